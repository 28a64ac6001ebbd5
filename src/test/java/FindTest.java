/** "Terms" from "TO FIND" to the last entry: promise 11 (find). */
public final class FindTest {
    private static final int FETCH = PageWalker.FETCH, LOAD = PageWalker.LOAD, STORE = PageWalker.STORE;
    private static final int V = Due.V, R = Due.R, W = Due.W, X = Due.X, U = Due.U, G = Due.G, A = Due.A, D = Due.D;
    private static final int ALL = V | R | W | X | A | D;
    private static final long TOP = Due.TOP;

    public static void main(String[] args) {
        Due due = new Due();
        due.sentence("Bits i..j of a number are a number of their own, from 0 on.", FindTest::bitsFromZeroOn);
        due.sentence("in mode 3, or with the sort 0, its physical address is a itself", FindTest::itself);
        due.sentence("but an access fault if bits 56..63 are not 0", FindTest::tooHigh);
        due.sentence("Otherwise there are n = 3 (sort 8) or 4 (sort 9) depths.", FindTest::depths);
        due.sentence("If the bits of a from 9 n + 11 on are not all the same, it is a page fault.", FindTest::sameBits);
        due.sentence("with the page of the table at first", FindTest::pageOfTheTable);
        due.sentence("and 8 times bits 12 + 9 i .. 20 + 9 i of a", FindTest::rows);
        due.sentence("It is an access fault if there is no such word in memory", FindTest::noSuchWord);
        due.sentence("or its eight bytes are not let through for a load in mode 1", FindTest::guardedEntry);
        due.sentence("or its eight bytes are not let through for a load in mode 1 -- some of the eight", FindTest::halfGuarded);
        due.sentence("and the number of a page in bits 10..53", FindTest::numberInEntry);
        due.sentence("It is a page fault if V is 0", FindTest::notValid);
        due.sentence("or W is 1 and R 0", FindTest::storeWithoutLoad);
        due.sentence("or one of the bits 54..63 is 1", FindTest::highBits);
        due.sentence("If R and X are 0, it is a page fault when i is 0", FindTest::leadsOnFromTheLowest);
        due.sentence("or U, A or D is 1", FindTest::marksOnTheWay);
        due.sentence("else its page is the next one", FindTest::nextPage);
        due.sentence("If R or X is 1, it is the LAST one.", FindTest::lastOne);
        due.end();
    }

    private static String of(int depths, int depth, int access) {
        return "depth " + depth + " of " + depths + ", access " + access;
    }

    /** A number that a page of every size may have: no lower bit than 27 is 1. */
    private static long large(int bits) {
        return 1L << 37 | bits;
    }

    /** The physical address of the same number. */
    private static final long LARGE = 1L << 39;

    /** The highest bit of a part is no sign. */
    private static void bitsFromZeroOn(Due due) {
        PageWalker page = Due.walk(3, 0, 1L << 53 | V | R);
        due.same("the highest bit of the number in an entry", page.find(8, LOAD, 1, 8), 1L << 55 | 8);
        PageWalker next = Due.walk(3, 1, 1L << 53 | V);
        due.same("the same on the way", next.find(8, LOAD, 1, 8), -5);
        PageWalker row = Due.walk(3, 0, 0);
        row.put(Due.row(2, 511), Due.entry(9, V | R));
        due.same("the highest row", row.find(511 << 12, LOAD, 1, 8), Due.MEMORY + 9 * 4096);
        row.put(Due.row(2, 256), Due.entry(10, V | R));
        due.same("the highest bit of a row alone", row.find(256 << 12, LOAD, 1, 8), Due.MEMORY + 10 * 4096);
        PageWalker table = Due.open();
        table.setTable(Due.SORT_FOUR | 1L << 43);
        due.same("the highest bit of the sort and of the table's number", table.table(), Due.SORT_FOUR | 1L << 43);
        due.same("no table there", table.find(8, LOAD, 1, 8), -5);
        PageWalker config = new PageWalker();
        config.setConfigs(0x8000_0000_0000_0080L);
        due.same("the highest bit of a config", config.configs(), 0x8000_0000_0000_0080L);
    }

    private static void itself(Due due) {
        for (long sort : new long[] {0, 8, 9}) {
            PageWalker x = Due.open();
            x.setTable(sort << 60 | Due.MEMORY_PAGE);
            x.put(Due.MEMORY, large(V | R | W | X));
            for (int access = FETCH; access <= STORE; access++) {
                for (long a : new long[] {0, 8, 4096, Due.MEMORY, 1L << 38, 1L << 39, 1L << 47, 1L << 55, TOP - 7}) {
                    due.same("sort " + sort + " in mode 3 at " + a, x.find(a, access, 3, 8), a);
                    if (sort == 0) {
                        due.same("sort 0 in mode 0 at " + a, x.find(a, access, 0, 8), a);
                        due.same("sort 0 in mode 1 at " + a, x.find(a, access, 1, 8), a);
                    }
                }
            }
            due.same("no mark in sort " + sort, x.word(Due.MEMORY), large(V | R | W | X));
        }
    }

    private static void tooHigh(Due due) {
        for (long sort : new long[] {0, 8, 9}) {
            PageWalker x = Due.open();
            x.setTable(sort << 60 | Due.MEMORY_PAGE);
            for (int access = FETCH; access <= STORE; access++) {
                for (int mode : sort == 0 ? Due.MODES : new int[] {3}) {
                    for (int bit = 56; bit < 64; bit++) {
                        due.same("bit " + bit, x.find(1L << bit, access, mode, 1), Due.ACCESS_FAULTS[access]);
                    }
                    due.same("all ones", x.find(-1, access, mode, 1), Due.ACCESS_FAULTS[access]);
                    due.same("ones in 56..63", x.find(~TOP, access, mode, 8), Due.ACCESS_FAULTS[access]);
                    due.same("the highest address", x.find(TOP, access, mode, 1), TOP);
                }
            }
        }
        PageWalker none = new PageWalker();
        due.same("mode 3 without a region, 2^56", none.find(TOP + 1, LOAD, 3, 1), -5);
        due.same("mode 3 without a region, 2^56 - 1", none.find(TOP, LOAD, 3, 1), TOP);
    }

    private static void depths(Due due) {
        // Three tables that lead on, and a fourth one behind them.
        PageWalker x = Due.walk(4, 0, Due.entry(9, V | R));
        due.same("sort 9", x.find(8, LOAD, 1, 8), Due.MEMORY + 9 * 4096 + 8);
        x.setTable(Due.SORT_THREE | Due.MEMORY_PAGE);
        due.same("sort 8 does not come to the fourth", x.find(8, LOAD, 1, 8), -13);
        x.setTable(Due.SORT_THREE | Due.MEMORY_PAGE + 1);
        due.same("sort 8 from the second on", x.find(8, LOAD, 1, 8), Due.MEMORY + 9 * 4096 + 8);
        x.setTable(Due.SORT_FOUR | Due.MEMORY_PAGE + 1);
        due.same("sort 9 from the second on", x.find(8, LOAD, 1, 8), -13);
    }

    private static void sameBits(Due due) {
        for (int n = 3; n <= 4; n++) {
            int lowest = 9 * n + 11;
            long half = 1L << lowest;
            for (int access = FETCH; access <= STORE; access++) {
                PageWalker x = Due.open();
                x.setTable(Due.sort(n) | Due.MEMORY_PAGE);
                // The rows of the lowest, the highest and the two middle addresses are pages of the greatest size.
                for (int row : new int[] {0, 255, 256, 511}) {
                    x.put(Due.row(0, row), large(ALL));
                }
                for (long a : new long[] {0, half - 1, -half, -1}) {
                    long within = a & (1L << (9 * n + 3)) - 1;
                    due.same("n " + n + " find(" + a + ")", x.find(a, access, 1, 1), LARGE | within);
                    for (int bit = lowest; bit < 64; bit++) {
                        long other = a ^ 1L << bit;
                        due.same("n " + n + " find(" + other + ")", x.find(other, access, 1, 1), Due.PAGE_FAULTS[access]);
                    }
                }
            }
        }
        // An address that four depths take and three do not.
        PageWalker x = Due.walk(4, 3, large(ALL));
        due.same("2^38 by four depths", x.find(1L << 38, LOAD, 1, 1), LARGE | 1L << 38);
        x.setTable(Due.SORT_THREE | Due.MEMORY_PAGE);
        due.same("2^38 by three depths", x.find(1L << 38, LOAD, 1, 1), -13);
    }

    private static void pageOfTheTable(Due due) {
        for (int n = 3; n <= 4; n++) {
            for (int page = 0; page < 16; page++) {
                PageWalker x = Due.open();
                x.setTable(Due.sort(n) | Due.MEMORY_PAGE + page);
                x.put(Due.row(page, 0), large(ALL));
                due.same("n " + n + ", the table on page " + page, x.find(8, LOAD, 1, 8), LARGE + 8);
            }
        }
    }

    private static void rows(Due due) {
        int[] rows = {0, 1, 2, 85, 128, 170, 255, 256, 510, 511};
        for (int n = 3; n <= 4; n++) {
            for (int depth = 0; depth < n; depth++) {
                for (int row : rows) {
                    rowOf(due, n, depth, row);
                }
            }
        }
    }

    /** One row of one depth, while those of all other depths are 0. */
    private static void rowOf(Due due, int n, int depth, int row) {
        PageWalker x = Due.walk(n, 0, Due.entry(15, V | R));
        long place = Due.place(n, depth);
        x.put(place + 8 * row, x.word(place));
        if (row != 0) {
            x.put(place, 0);
        }
        int unused = 52 - 9 * n;
        long a = (long) row << (12 + 9 * depth) << unused >> unused;
        String what = "row " + row + " at depth " + depth + " of " + n;
        due.same(what, x.find(a | 8, LOAD, 1, 8), Due.MEMORY + 15 * 4096 + 8);
        due.same(what + " and all ones below", x.find(a | 0xFF8, LOAD, 1, 8), Due.MEMORY + 15 * 4096 + 0xFF8);
        long beside = (long) (row ^ 1) << (12 + 9 * depth) << unused >> unused;
        due.same(what + ", the row beside it", x.find(beside | 8, LOAD, 1, 8), -13);
        if (depth == 0) {
            due.same(what + ", its mark", x.word(place + 8 * row), Due.entry(15, V | R | A));
        }
    }

    private static void noSuchWord(Due due) {
        long[] lost = {
            0, 1, Due.MEMORY_PAGE - 1, Due.MEMORY_PAGE + 16, Due.MEMORY_PAGE + 17, Due.MEMORY_PAGE << 1, Due.MEMORY_PAGE >> 1,
            Due.MEMORY_PAGE | 1L << 20, Due.MEMORY_PAGE | 1L << 43, Due.ALL_PAGES,
        };
        for (int n = 3; n <= 4; n++) {
            for (int depth = 0; depth < n; depth++) {
                for (long page : lost) {
                    lostTable(due, n, depth, page);
                }
                firstAndLastTable(due, n, depth);
            }
        }
    }

    /** An object whose table of a depth lies on a page, with addresses whose other rows are 0. */
    private static PageWalker tableOn(int n, int depth, long page) {
        PageWalker x = Due.walk(n, 0, Due.entry(9, ALL));
        if (depth == n - 1) {
            x.setTable(Due.sort(n) | page);
        } else {
            x.put(Due.place(n, depth + 1), page << 10 | V);
        }
        return x;
    }

    private static void lostTable(Due due, int n, int depth, long page) {
        PageWalker x = tableOn(n, depth, page);
        int unused = 52 - 9 * n;
        for (int access = FETCH; access <= STORE; access++) {
            for (int row : new int[] {0, 256, 511}) {
                long a = (long) row << (12 + 9 * depth) << unused >> unused;
                due.same(of(n, depth, access) + ", page " + page + ", row " + row, x.find(a, access, 1, 1), Due.ACCESS_FAULTS[access]);
            }
        }
    }

    /** The first and the last word of memory are entries like all others. */
    private static void firstAndLastTable(Due due, int n, int depth) {
        int unused = 52 - 9 * n;
        PageWalker last = tableOn(n, depth, Due.MEMORY_PAGE + 15);
        last.put(Due.LAST_WORD, large(ALL));
        long highest = 511L << (12 + 9 * depth) << unused >> unused;
        due.same("the last word at depth " + depth + " of " + n, last.find(highest | 8, LOAD, 1, 8), LARGE + 8);
        PageWalker first = Due.open();
        first.setTable(Due.sort(n) | Due.MEMORY_PAGE + (depth == n - 1 ? 0 : 1));
        // The tables above lie on the pages 1 and on; the one of this depth on page 0.
        for (int above = n - 1; above > depth; above--) {
            first.put(Due.row(n - above, 0), Due.entry(above == depth + 1 ? 0 : n - above + 1, V));
        }
        first.put(Due.MEMORY, large(ALL));
        due.same("the first word at depth " + depth + " of " + n, first.find(8, LOAD, 1, 8), LARGE + 8);
    }

    private static void guardedEntry(Due due) {
        for (int n = 3; n <= 4; n++) {
            for (int depth = 0; depth < n; depth++) {
                for (int rights = 0; rights < 16; rights++) {
                    guardedBy(due, n, depth, rights);
                }
                uncovered(due, n, depth);
            }
        }
    }

    /** A region over one entry, with rights R, W, X and, as the fourth, L: R alone decides. */
    private static void guardedBy(Due due, int n, int depth, int rights) {
        PageWalker x = Due.walk(n, 0, Due.entry(9, ALL | U));
        x.setNumber(0, Due.place(n, depth) >> 2);
        x.setConfigs(Due.openBehind(0x18 | rights & 7 | (rights & 8) << 4));
        boolean open = (rights & 1) != 0;
        for (int access = FETCH; access <= STORE; access++) {
            due.same(of(n, depth, access) + ", guarded by " + rights, x.find(8, access, 0, 8),
                    open ? Due.MEMORY + 9 * 4096 + 8 : Due.ACCESS_FAULTS[access]);
        }
    }

    /** Regions over all addresses but those of one entry: no region covers it, and mode 1 does not come through. */
    private static void uncovered(Due due, int n, int depth) {
        PageWalker x = Due.walk(n, 0, Due.entry(9, ALL | U));
        x.setNumber(0, Due.place(n, depth) >> 2);
        x.setNumber(1, (Due.place(n, depth) >> 2) + 2);
        x.setNumber(2, -1);
        x.setConfigs(0x0F_00_0FL);
        for (int access = FETCH; access <= STORE; access++) {
            due.same(of(n, depth, access) + ", not covered", x.find(8, access, 0, 8), Due.ACCESS_FAULTS[access]);
        }
        x.setConfigs(0x0F_0F_0FL);
        due.same(of(n, depth, LOAD) + ", covered", x.find(8, LOAD, 0, 8), Due.MEMORY + 9 * 4096 + 8);
    }

    private static void halfGuarded(Due due) {
        for (int n = 3; n <= 4; n++) {
            for (int depth = 0; depth < n; depth++) {
                for (int half = -1; half <= 2; half++) {
                    PageWalker x = Due.walk(n, 0, Due.entry(9, ALL | U));
                    x.setNumber(0, (Due.place(n, depth) >> 2) + half);
                    x.setConfigs(Due.openBehind(0x17));
                    boolean beside = half < 0 || half > 1;
                    for (int access = FETCH; access <= STORE; access++) {
                        due.same(of(n, depth, access) + ", four bytes from " + 4 * half, x.find(8, access, 0, 8),
                                beside ? Due.MEMORY + 9 * 4096 + 8 : Due.ACCESS_FAULTS[access]);
                    }
                }
            }
        }
    }

    private static void numberInEntry(Due due) {
        for (int bit = 10; bit < 54; bit++) {
            PageWalker x = Due.walk(3, 0, 1L << bit | V | R);
            due.same("bit " + bit + " of the last entry", x.find(8, LOAD, 1, 8), 1L << bit + 2 | 8);
        }
        PageWalker highest = Due.walk(3, 0, Due.ALL_PAGES << 10 | V | R);
        due.same("the highest page", highest.find(0xFFF, LOAD, 1, 1), TOP);
        PageWalker lowest = Due.walk(3, 0, V | R);
        due.same("the lowest page", lowest.find(0, LOAD, 1, 1), 0);
        // Bits 5, 8 and 9 are neither marks nor a part of the number.
        for (long bits : new long[] {1L << 5, 1L << 8, 1L << 9, 0x320}) {
            for (int depth = 0; depth < 3; depth++) {
                PageWalker x = Due.walk(3, 0, Due.entry(9, V | R));
                x.put(Due.place(3, depth), x.word(Due.place(3, depth)) | bits);
                due.same("bits " + bits + " at depth " + depth, x.find(8, LOAD, 1, 8), Due.MEMORY + 9 * 4096 + 8);
            }
        }
    }

    /** An entry at a depth, and the same one with a fault in it: the second one, and it alone, is a page fault. */
    private static void breaks(Due due, String what, int n, int depth, long good, long bad) {
        for (int access = FETCH; access <= STORE; access++) {
            PageWalker x = Due.walk(n, 0, Due.entry(9, ALL));
            x.put(Due.place(n, depth), good);
            due.same(what + ", without it, " + of(n, depth, access), x.find(0, access, 1, 8) >= 0, true);
            x.put(Due.place(n, depth), bad);
            due.same(what + ", " + of(n, depth, access), x.find(0, access, 1, 8), Due.PAGE_FAULTS[access]);
            due.same(what + ", the entry stays, " + of(n, depth, access), x.word(Due.place(n, depth)), bad);
        }
    }

    private static long leadsOn(int n, int depth) {
        return Due.entry(n - depth, V);
    }

    private static void notValid(Due due) {
        for (int n = 3; n <= 4; n++) {
            for (int depth = 0; depth < n; depth++) {
                breaks(due, "a last entry without V", n, depth, large(ALL), large(ALL - V));
                breaks(due, "a last entry without V and marks", n, depth, large(ALL - A - D), large(ALL - A - D - V));
                breaks(due, "an entry of 0", n, depth, large(ALL), 0);
                if (depth > 0) {
                    breaks(due, "an entry on the way without V", n, depth, leadsOn(n, depth), leadsOn(n, depth) - V);
                }
            }
        }
    }

    private static void storeWithoutLoad(Due due) {
        for (int n = 3; n <= 4; n++) {
            for (int depth = 0; depth < n; depth++) {
                breaks(due, "W and X without R", n, depth, large(ALL), large(ALL - R));
                breaks(due, "W and X without R and marks", n, depth, large(ALL), large(V | W | X));
                breaks(due, "W without R and X", n, depth, large(ALL), large(V | W));
                if (depth > 0) {
                    breaks(due, "an entry on the way with W", n, depth, leadsOn(n, depth), leadsOn(n, depth) | W);
                }
            }
        }
        PageWalker x = Due.three(V | W | X);
        x.rights(true, true);
        due.same("a load by MXR of X with W", x.find(0, LOAD, 1, 1), -13);
        due.same("a fetch of X with W", x.find(0, FETCH, 1, 1), -12);
    }

    private static void highBits(Due due) {
        for (int n = 3; n <= 4; n++) {
            for (int depth = 0; depth < n; depth++) {
                for (int bit = 54; bit < 64; bit++) {
                    breaks(due, "bit " + bit + " of a last entry", n, depth, large(ALL), large(ALL) | 1L << bit);
                    if (depth > 0) {
                        breaks(due, "bit " + bit + " on the way", n, depth, leadsOn(n, depth), leadsOn(n, depth) | 1L << bit);
                    }
                }
                breaks(due, "all high bits", n, depth, large(ALL), large(ALL) | -1L << 54);
            }
        }
    }

    private static void leadsOnFromTheLowest(Due due) {
        for (int n = 3; n <= 4; n++) {
            breaks(due, "leads on from the lowest", n, 0, Due.entry(9, ALL), Due.entry(9, V));
            breaks(due, "leads on from the lowest to its own page", n, 0, Due.entry(9, ALL), Due.entry(n - 1, V));
            // The lowest entry leads to a page where a last entry stands.
            PageWalker x = Due.walk(n, 0, Due.entry(9, V));
            x.put(Due.row(9, 0), Due.entry(10, ALL));
            due.same("no fifth depth of " + n, x.find(0, LOAD, 1, 1), -13);
        }
    }

    private static void marksOnTheWay(Due due) {
        for (int n = 3; n <= 4; n++) {
            for (int depth = 1; depth < n; depth++) {
                for (int marks : new int[] {U, A, D, U | A, U | D, A | D, U | A | D}) {
                    breaks(due, "marks " + marks + " on the way", n, depth, leadsOn(n, depth), leadsOn(n, depth) | marks);
                }
            }
        }
        // In mode 0 as well, where the last entry has U.
        PageWalker x = Due.three(ALL | U);
        due.same("a user's page", x.find(0, LOAD, 0, 1), Due.MEMORY + 3 * 4096);
        x.put(Due.row(1, 0), Due.entry(2, V | U));
        due.same("U on the way in mode 0", x.find(0, LOAD, 0, 1), -13);
    }

    private static void nextPage(Due due) {
        for (int n = 3; n <= 4; n++) {
            for (int page = n; page < 16; page++) {
                PageWalker x = Due.walk(n, 0, Due.entry(9, ALL));
                x.put(Due.place(n, 1), Due.entry(page, V | G));
                x.put(Due.row(page, 0), Due.entry(11, ALL));
                due.same("n " + n + ", the next page is " + page, x.find(8, LOAD, 1, 8), Due.MEMORY + 11 * 4096 + 8);
            }
            // A table that leads to itself, at every depth but the lowest.
            PageWalker self = Due.open();
            self.setTable(Due.sort(n) | Due.MEMORY_PAGE);
            self.put(Due.row(0, 0), Due.entry(0, V));
            self.put(Due.row(0, 1), Due.entry(5, V | R));
            due.same("n " + n + ", a table of its own", self.find(1L << 12 | 8, LOAD, 1, 8), Due.MEMORY + 5 * 4096 + 8);
            due.same("n " + n + ", a table that leads on for ever", self.find(8, LOAD, 1, 8), -13);
            due.same("n " + n + ", no mark on the way", self.word(Due.row(0, 0)), Due.entry(0, V));
        }
    }

    private static void lastOne(Due due) {
        for (int n = 3; n <= 4; n++) {
            for (int depth = 0; depth < n; depth++) {
                PageWalker x = Due.walk(n, depth, large(V | R));
                due.same("R at depth " + depth + " of " + n, x.find(8, LOAD, 1, 8), LARGE + 8);
                x = Due.walk(n, depth, large(V | X));
                due.same("X at depth " + depth + " of " + n, x.find(8, FETCH, 1, 8), LARGE + 8);
                x = Due.walk(n, depth, large(V | R | X));
                due.same("R and X at depth " + depth + " of " + n, x.find(8, FETCH, 1, 8), LARGE + 8);
            }
        }
        // A last one whose number would lead on to a table that grants the access.
        for (int bits : new int[] {V | R, V | X}) {
            PageWalker x = Due.three(ALL);
            x.put(Due.row(1, 0), Due.entry(2, bits));
            due.same("a last one does not lead on", x.find(0, STORE, 1, 1), -15);
        }
    }
}
