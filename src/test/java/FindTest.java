/** Promises 6 (rights) and 11 (find). */
public final class FindTest {
    private static final int FETCH = PageWalker.FETCH, LOAD = PageWalker.LOAD, STORE = PageWalker.STORE;
    private static final int V = Due.V, R = Due.R, W = Due.W, X = Due.X, U = Due.U, G = Due.G, A = Due.A, D = Due.D;
    private static final int USER = Due.USER, SUPERVISOR = Due.SUPERVISOR, MACHINE = Due.MACHINE;
    private static final long TOP = (1L << 56) - 1;
    private static final long[] ACCESS_FAULTS = {-1, -5, -7};
    private static final long[] PAGE_FAULTS = {-12, -13, -15};
    private static final long PAGE = Due.MEMORY + 3 * 4096;

    public static void main(String[] args) {
        Due due = new Due();
        withoutTable(due);
        signOfAddresses(due);
        rowsOfEveryDepth(due);
        largePages(due);
        lostTables(due);
        guardedTables(due);
        entriesOnTheWay(due);
        everyLastEntry(due);
        marks(due);
        guardedMarks(due);
        guardedTarget(due);
        targetsOutsideMemory(due);
        tableBitsThatDoNotMatter(due);
        wrongInputs(due);
        due.end();
    }

    private static String call(String what, int access, int mode) {
        return what + ", access " + access + ", mode " + mode;
    }

    private static void withoutTable(Due due) {
        PageWalker x = Due.open();
        PageWalker y = Due.open();
        y.setTable(Due.SORT_FOUR | Due.MEMORY_PAGE);
        for (int access = 0; access < 3; access++) {
            for (int mode : new int[] {USER, SUPERVISOR, MACHINE}) {
                due.same(call("sort 0", access, mode), x.find(4, access, mode, 8), 4);
                due.same(call("sort 0, top", access, mode), x.find(TOP, access, mode, 1), TOP);
                due.same(call("sort 0, 2^56", access, mode), x.find(TOP + 1, access, mode, 1), ACCESS_FAULTS[access]);
                due.same(call("sort 0, 2^63", access, mode), x.find(1L << 63, access, mode, 1), ACCESS_FAULTS[access]);
                due.same(call("sort 0, -1", access, mode), x.find(-1, access, mode, 1), ACCESS_FAULTS[access]);
            }
            due.same("mode 3 with a table", y.find(4096, access, MACHINE, 8), 4096);
            due.same("mode 3 with a table, 2^56", y.find(TOP + 1, access, MACHINE, 8), ACCESS_FAULTS[access]);
        }
        PageWalker shut = new PageWalker();
        due.same("sort 0 of a user without a region", shut.find(4, STORE, USER, 4), -7);
        due.same("mode 3 without a region", shut.find(4, STORE, MACHINE, 4), 4);
        shut.setConfigs(0x90);
        due.same("mode 3 and a locked region", shut.find(0, STORE, MACHINE, 4), -7);
    }

    private static void signOfAddresses(Due due) {
        for (int depths = 3; depths <= 4; depths++) {
            PageWalker x = Due.open();
            x.setTable((depths == 3 ? Due.SORT_THREE : Due.SORT_FOUR) | Due.MEMORY_PAGE);
            // An entry that lies outside memory: an address of good form is refused with an access fault.
            for (int row = 0; row < 512; row++) {
                x.put(Due.row(0, row), V);
            }
            long half = 1L << (9 * depths + 11);
            long[] good = {0, half - 1, -half, -1, half / 2, -half / 2};
            long[] bad = {half, -half - 1, Long.MIN_VALUE, Long.MAX_VALUE, 2 * half, 2 * half - 1, TOP + 1, 1L << 62};
            for (int access = 0; access < 3; access++) {
                for (long a : good) {
                    due.same("depths " + depths + " find(" + a + ")", x.find(a, access, SUPERVISOR, 1), ACCESS_FAULTS[access]);
                }
                for (long a : bad) {
                    due.same("depths " + depths + " find(" + a + ")", x.find(a, access, SUPERVISOR, 1), PAGE_FAULTS[access]);
                }
            }
        }
    }

    private static void rowsOfEveryDepth(Due due) {
        int[] rows = {3, 511, 256, 129};
        for (int depths = 3; depths <= 4; depths++) {
            PageWalker x = Due.open();
            x.setTable((depths == 3 ? Due.SORT_THREE : Due.SORT_FOUR) | Due.MEMORY_PAGE + 5);
            long address = 0xABC;
            for (int depth = depths - 1; depth >= 0; depth--) {
                int table = 5 + depths - 1 - depth;
                x.put(Due.row(table, rows[depth]), Due.entry(depth == 0 ? 15 : table + 1, depth == 0 ? V | R | W | X | G : V | G));
                address |= (long) rows[depth] << 12 + 9 * depth;
            }
            address = address << (52 - 9 * depths) >> (52 - 9 * depths);
            due.same("depths " + depths, x.find(address, LOAD, SUPERVISOR, 4), Due.MEMORY + 15 * 4096 + 0xABC);
            due.same("depths " + depths + ", last byte", x.find(address | 0xFFF, STORE, SUPERVISOR, 1), Due.MEMORY + 15 * 4096 + 0xFFF);
            due.same("depths " + depths + ", the row beside", x.find(address + 4096, LOAD, SUPERVISOR, 4), -13);
        }
    }

    private static void largePages(Due due) {
        for (int depths = 3; depths <= 4; depths++) {
            for (int depth = 0; depth < depths; depth++) {
                largePage(due, depths, depth);
            }
        }
    }

    private static void largePage(Due due, int depths, int depth) {
        PageWalker x = Due.open();
        x.setTable((depths == 3 ? Due.SORT_THREE : Due.SORT_FOUR) | Due.MEMORY_PAGE);
        for (int table = 0; table < depths - 1 - depth; table++) {
            x.put(Due.row(table, 0), Due.entry(table + 1, V));
        }
        long place = Due.row(depths - 1 - depth, 0);
        long size = 1L << (12 + 9 * depth);
        long number = 0x555_5555_5555L >>> 9 * depth << 9 * depth;
        x.put(place, number << 10 | V | R | A);
        long address = 0x5A5A_5A5A_5A5AL & (size - 1);
        for (int i = 0; i < depth; i++) {
            due.same("large page of depth " + depth, x.find(address, LOAD, SUPERVISOR, 1), number << 12 | address);
            x.put(place, (number | 1L << 9 * i) << 10 | V | R | A);
            due.same("depth " + depth + ", number with a one at " + 9 * i, x.find(address, LOAD, SUPERVISOR, 1), -13);
            x.put(place, (number | 1L << 9 * i + 8) << 10 | V | R | A);
            due.same("depth " + depth + ", number with a one at " + (9 * i + 8), x.find(address, LOAD, SUPERVISOR, 1), -13);
            x.put(place, number << 10 | V | R | A);
        }
        x.put(place, (1L << 9 * depth) << 10 | V | R | A);
        due.same("depth " + depth + ", the lowest number that may be", x.find(size - 1, LOAD, SUPERVISOR, 1), 2 * size - 1);
        x.put(place, (0xFFF_FFFF_FFFFL >>> 9 * depth << 9 * depth) << 10 | V | R | A);
        due.same("depth " + depth + ", the highest number", x.find(size - 1, LOAD, SUPERVISOR, 1), TOP);
        x.put(place + 8, (2L << 9 * depth) << 10 | V | R | A);
        due.same("depth " + depth + ", the row is no part of what is found", x.find(2 * size - 1, LOAD, SUPERVISOR, 1), 3 * size - 1);
    }

    private static void lostTables(Due due) {
        long[] pages = {0, Due.MEMORY_PAGE - 1, Due.MEMORY_PAGE + 16, (1L << 44) - 1, Due.MEMORY_PAGE | 1L << 43};
        for (int access = 0; access < 3; access++) {
            for (long page : pages) {
                PageWalker x = Due.open();
                x.setTable(Due.SORT_THREE | page);
                due.same("table on page " + page, x.find(0, access, SUPERVISOR, 1), ACCESS_FAULTS[access]);
                x = Due.three(V | R | W | X);
                x.put(Due.row(1, 0), page << 10 | V);
                due.same("lower table on page " + page, x.find(0, access, SUPERVISOR, 1), ACCESS_FAULTS[access]);
            }
        }
        PageWalker last = Due.open();
        last.setTable(Due.SORT_THREE | Due.MEMORY_PAGE + 15);
        last.put(Due.row(15, 255), 1L << 18 << 10 | V | R);
        due.same("table on the last page", last.find(255L << 30, LOAD, SUPERVISOR, 1), 1L << 30);
    }

    private static void guardedTables(Due due) {
        for (int table = 0; table < 3; table++) {
            for (int config = 0; config < 8; config++) {
                PageWalker x = Due.three(V | R | W | X | U | A | D);
                x.setNumber(0, Due.row(table, 0) >> 2);
                x.setConfigs(Due.openBehind(0x18 | config));
                boolean open = (config & 1) != 0;
                for (int access = 0; access < 3; access++) {
                    due.same("table " + table + " guarded by " + config, x.find(8, access, USER, 8),
                            open ? PAGE + 8 : ACCESS_FAULTS[access]);
                }
            }
            halfGuarded(due, table);
        }
    }

    private static void halfGuarded(Due due, int table) {
        PageWalker x = Due.three(V | R | W | X | U | A | D);
        x.setNumber(0, (Due.row(table, 0) >> 2) + 1);
        x.setConfigs(Due.openBehind(0x17));
        due.same("half of an entry of table " + table + " covered", x.find(8, LOAD, USER, 8), -5);
    }

    private static void entriesOnTheWay(Due due) {
        for (int bits = 0; bits < 256; bits++) {
            if ((bits & (R | X)) != 0) {
                continue;
            }
            boolean leadsOn = (bits & V) != 0 && (bits & (W | U | A | D)) == 0;
            for (int access = 0; access < 3; access++) {
                for (int table = 0; table < 3; table++) {
                    PageWalker x = Due.three(V | R | W | X);
                    x.put(Due.row(table, 0), Due.entry(table + 1, bits));
                    due.same(call("entry " + bits + " in table " + table, access, SUPERVISOR),
                            x.find(0, access, SUPERVISOR, 1), leadsOn && table < 2 ? PAGE : PAGE_FAULTS[access]);
                }
            }
        }
        for (int bit = 8; bit < 64; bit++) {
            if (bit >= 10 && bit < 54) {
                continue;
            }
            for (int table = 0; table < 3; table++) {
                PageWalker x = Due.three(V | R | W | X);
                x.put(Due.row(table, 0), x.word(Due.row(table, 0)) | 1L << bit);
                due.same("bit " + bit + " of the entry in table " + table, x.find(0, STORE, SUPERVISOR, 1), bit < 10 ? PAGE : -15);
            }
        }
    }

    private static void everyLastEntry(Due due) {
        for (int bits = 0; bits < 256; bits++) {
            if ((bits & (R | X)) == 0) {
                continue;
            }
            for (int rights = 0; rights < 4; rights++) {
                for (int mode = 0; mode < 2; mode++) {
                    for (int access = 0; access < 3; access++) {
                        lastEntry(due, bits, rights, mode, access);
                    }
                }
            }
        }
    }

    private static void lastEntry(Due due, int bits, int rights, int mode, int access) {
        boolean sum = (rights & 1) != 0;
        boolean mxr = (rights & 2) != 0;
        boolean wellFormed = (bits & V) != 0 && ((bits & W) == 0 || (bits & R) != 0);
        boolean user = (bits & U) != 0;
        boolean modeOpen = mode == USER ? user : !user || sum && access != FETCH;
        boolean readable = (bits & R) != 0 || mxr && (bits & X) != 0;
        boolean accessOpen = access == FETCH ? (bits & X) != 0 : access == LOAD ? readable : (bits & W) != 0;
        boolean open = wellFormed && modeOpen && accessOpen;
        PageWalker x = Due.three(bits);
        x.rights(sum, mxr);
        String what = call("last entry " + bits + ", rights " + rights, access, mode);
        due.same(what, x.find(24, access, mode, 8), open ? PAGE + 24 : PAGE_FAULTS[access]);
        int marked = !open ? bits : access == STORE ? bits | A | D : bits | A;
        due.same(what + ", marks", x.word(Due.row(2, 0)), Due.entry(3, marked));
    }

    private static void marks(Due due) {
        PageWalker x = Due.three(V | R | W | X);
        x.find(0, LOAD, SUPERVISOR, 1);
        due.same("marks of a load", x.word(Due.row(2, 0)), Due.entry(3, V | R | W | X | A));
        x.find(0, STORE, SUPERVISOR, 1);
        due.same("marks of a store", x.word(Due.row(2, 0)), Due.entry(3, V | R | W | X | A | D));
        due.same("no marks on the way", x.word(Due.row(1, 0)), Due.entry(2, V));
        due.same("no marks at the root", x.word(Due.row(0, 0)), Due.entry(1, V));
        x.put(Due.row(2, 0), Due.entry(3, V | R | W | X | D));
        x.find(0, FETCH, SUPERVISOR, 1);
        due.same("D stays in a fetch", x.word(Due.row(2, 0)), Due.entry(3, V | R | W | X | A | D));
        x.put(Due.row(2, 0), Due.entry(3, V | R | W | X) | 3 << 8 | G);
        x.find(0, STORE, SUPERVISOR, 1);
        due.same("other bits stay", x.word(Due.row(2, 0)), Due.entry(3, V | R | W | X | A | D | G) | 3 << 8);
        x.put(Due.row(2, 0), Due.entry(3, V | R | W | X));
        x.find(0, STORE, MACHINE, 1);
        due.same("mode 3 marks nothing", x.word(Due.row(2, 0)), Due.entry(3, V | R | W | X));
    }

    private static void guardedMarks(Due due) {
        for (int config : new int[] {0x19, 0x1B, 0x1D, 0x1F}) {
            boolean open = (config & 2) != 0;
            for (int marked = 0; marked < 4; marked++) {
                int bits = V | R | W | X | U | marked << 6;
                for (int access = 0; access < 3; access++) {
                    PageWalker x = Due.three(bits);
                    x.setNumber(0, Due.row(2, 0) >> 2);
                    x.setConfigs(Due.openBehind(config));
                    int wanted = access == STORE ? A | D : A;
                    boolean found = open || (bits & wanted) == wanted;
                    String what = call("marks " + marked + " guarded by " + config, access, USER);
                    due.same(what, x.find(0, access, USER, 8), found ? PAGE : ACCESS_FAULTS[access]);
                    due.same(what + ", entry", x.word(Due.row(2, 0)), Due.entry(3, found ? bits | wanted : bits));
                }
            }
        }
        PageWalker x = Due.three(V | R);
        x.setNumber(0, Due.row(2, 0) >> 2);
        x.setConfigs(Due.openBehind(0x19));
        due.same("a page fault comes before the guard of marks", x.find(0, STORE, SUPERVISOR, 8), -15);
    }

    private static void guardedTarget(Due due) {
        for (int config = 0; config < 8; config++) {
            for (int access = 0; access < 3; access++) {
                PageWalker x = Due.three(V | R | W | X);
                x.setNumber(0, PAGE >> 2);
                x.setConfigs(Due.openBehind(0x10 | config));
                boolean r = (config & 1) != 0;
                boolean open = access == LOAD ? r : access == STORE ? r && (config & 2) != 0 : (config & 4) != 0;
                String what = call("target guarded by " + config, access, SUPERVISOR);
                due.same(what, x.find(0, access, SUPERVISOR, 4), open ? PAGE : ACCESS_FAULTS[access]);
                due.same(what + ", marks stay", x.word(Due.row(2, 0)),
                        Due.entry(3, V | R | W | X | A | (access == STORE ? D : 0)));
                due.same(what + ", half covered", x.find(0, access, SUPERVISOR, 8), ACCESS_FAULTS[access]);
                due.same(what + ", behind it", x.find(4, access, SUPERVISOR, 4), PAGE + 4);
            }
        }
    }

    private static void targetsOutsideMemory(Due due) {
        PageWalker x = Due.three(V | R);
        for (long page : new long[] {0, 1, Due.MEMORY_PAGE - 1, Due.MEMORY_PAGE + 16, (1L << 44) - 1}) {
            x.put(Due.row(2, 0), page << 10 | V | R);
            due.same("target on page " + page, x.find(0xFF8, LOAD, SUPERVISOR, 8), page << 12 | 0xFF8);
        }
    }

    private static void tableBitsThatDoNotMatter(Due due) {
        PageWalker x = Due.three(V | R);
        x.setTable(x.table() | 0xFFFFL << 44);
        due.same("bits 44..59 of the table", x.find(8, LOAD, SUPERVISOR, 8), PAGE + 8);
    }

    private static void wrongInputs(Due due) {
        PageWalker x = Due.three(V | R | W | X | U);
        x.rights(true, true);
        int[][] wrong = {
            {-1, 1, 1}, {3, 1, 1}, {Integer.MIN_VALUE, 1, 1}, {Integer.MAX_VALUE, 1, 1},
            {1, 2, 1}, {1, -1, 1}, {1, 4, 1}, {1, Integer.MIN_VALUE, 1},
            {1, 1, 0}, {1, 1, 3}, {1, 1, 5}, {1, 1, 6}, {1, 1, 7}, {1, 1, 9}, {1, 1, 16}, {1, 1, -1}, {1, 1, -8},
            {1, 1, Integer.MIN_VALUE}, {1, 1, Integer.MAX_VALUE}, {2, 3, 12},
        };
        for (int[] w : wrong) {
            due.refuses("find(0, " + w[0] + ", " + w[1] + ", " + w[2] + ")", IllegalArgumentException.class,
                    () -> x.find(0, w[0], w[1], w[2]));
        }
        for (long page : new long[] {0, 1, -1, -2, 1L << 44, Long.MIN_VALUE >> 12, Long.MAX_VALUE >> 12}) {
            for (int size = 2; size <= 8; size *= 2) {
                int bytes = size;
                long over = page * 4096 + 4097 - size;
                due.refuses("find(" + over + ") of " + size, IllegalArgumentException.class, () -> x.find(over, LOAD, MACHINE, bytes));
                due.refuses("find(" + over + ") of " + size, IllegalArgumentException.class, () -> x.find(over, STORE, USER, bytes));
            }
        }
        due.same("no marks by wrong calls", x.word(Due.row(2, 0)), Due.entry(3, V | R | W | X | U));
        for (int size = 1; size <= 8; size *= 2) {
            due.same("the last " + size + " of the page", x.find(4096 - size, LOAD, USER, size), PAGE + 4096 - size);
        }
        due.same("an address that its size does not divide", x.find(3, LOAD, USER, 8), PAGE + 3);
    }
}
