/** "Terms" on the last entry, its marks and the physical address: promise 11 (find). */
public final class LastEntryTest {
    private static final int FETCH = PageWalker.FETCH, LOAD = PageWalker.LOAD, STORE = PageWalker.STORE;
    private static final int V = Due.V, R = Due.R, W = Due.W, X = Due.X, U = Due.U, G = Due.G, A = Due.A, D = Due.D;
    private static final int ALL = V | R | W | X | A | D;
    private static final int UNMARKED = V | R | W | X;
    private static final long PAGE = Due.MEMORY + 3 * 4096;
    private static final long LAST = Due.row(2, 0);

    public static void main(String[] args) {
        Due due = new Due();
        due.sentence("gives a page fault if one of the lowest 9 i bits of its number is 1", LastEntryTest::lowestBits);
        due.sentence("in mode 0 without U", LastEntryTest::userWithoutU);
        due.sentence("in mode 1 with U, but with SUM for a load or store", LastEntryTest::supervisorWithU);
        due.sentence("for a fetch without X", LastEntryTest::fetchWithoutX);
        due.sentence("for a load without R, but with MXR and X", LastEntryTest::loadWithoutR);
        due.sentence("for a store without W", LastEntryTest::storeWithoutW);
        due.sentence("Then, if A is 0, or D is 0 for a store", LastEntryTest::wantsMarks);
        due.sentence("it is an access fault if its eight bytes are not let through for a store in mode 1", LastEntryTest::guardedMarks);
        due.sentence("else A becomes 1, and D too for a store, in memory", LastEntryTest::marks);
        due.sentence("else A becomes 1, and D too for a store, in memory -- at every depth", LastEntryTest::marksOfLargePages);
        due.sentence("The physical address is 4096 times its number, with bits 0 .. 11 + 9 i of a.", LastEntryTest::physical);
        due.sentence("At last it is an access fault if the bytes at the physical address are not let through", LastEntryTest::guardedTarget);
        due.sentence("for the access in its mode", LastEntryTest::inItsMode);
        due.sentence("(Marks that were put stay.", LastEntryTest::marksStay);
        due.sentence("Whether there is memory there does not matter.)", LastEntryTest::noMemoryThere);
        due.sentence("Promise 11: the physical address, or the number of the fault, below 0", LastEntryTest::everyLastEntry);
        due.end();
    }

    private static String of(int bits, int access, int mode) {
        return "entry " + bits + ", access " + access + ", mode " + mode;
    }

    private static void lowestBits(Due due) {
        for (int n = 3; n <= 4; n++) {
            for (int depth = 0; depth < n; depth++) {
                for (int bit = 0; bit < 44; bit++) {
                    numberWith(due, n, depth, 1L << bit, bit >= 9 * depth);
                    numberWith(due, n, depth, 1L << bit | 1L << 43, bit >= 9 * depth);
                }
                numberWith(due, n, depth, Due.ALL_PAGES >>> 9 * depth << 9 * depth, true);
                numberWith(due, n, depth, Due.ALL_PAGES, depth == 0);
                numberWith(due, n, depth, 0, true);
            }
        }
    }

    private static void numberWith(Due due, int n, int depth, long number, boolean good) {
        for (int access = FETCH; access <= STORE; access++) {
            PageWalker x = Due.walk(n, depth, number << 10 | UNMARKED);
            due.same("number " + number + " at depth " + depth + " of " + n, x.find(8, access, 1, 8),
                    good ? number << 12 | 8 : Due.PAGE_FAULTS[access]);
            if (!good) {
                due.same("no mark for number " + number, x.word(Due.place(n, depth)), number << 10 | UNMARKED);
            }
        }
    }

    /** The answer of a new object whose lowest entry has these bits, and the entry after it. */
    private static void answers(Due due, int bits, int access, int mode, boolean sum, boolean mxr, boolean good) {
        PageWalker x = Due.three(bits);
        x.rights(sum, mxr);
        String what = of(bits, access, mode) + ", SUM " + sum + ", MXR " + mxr;
        due.same(what, x.find(8, access, mode, 8), good ? PAGE + 8 : Due.PAGE_FAULTS[access]);
        int marked = !good ? bits : access == STORE ? bits | A | D : bits | A;
        due.same(what + ", the entry after it", x.word(LAST), Due.entry(3, marked));
    }

    /** For each way in which the rights may be given. */
    private static void answers(Due due, int bits, int access, int mode, boolean good) {
        for (int given = 0; given < 4; given++) {
            answers(due, bits, access, mode, (given & 1) != 0, (given & 2) != 0, good);
        }
    }

    private static void userWithoutU(Due due) {
        for (int access = FETCH; access <= STORE; access++) {
            answers(due, ALL, access, 0, false);
            answers(due, UNMARKED, access, 0, false);
            answers(due, ALL | U, access, 0, true);
            answers(due, UNMARKED | U, access, 0, true);
            answers(due, UNMARKED, access, 1, true);
        }
    }

    private static void supervisorWithU(Due due) {
        for (int given = 0; given < 4; given++) {
            boolean sum = (given & 1) != 0;
            boolean mxr = (given & 2) != 0;
            answers(due, UNMARKED | U, FETCH, 1, sum, mxr, false);
            answers(due, UNMARKED | U, LOAD, 1, sum, mxr, sum);
            answers(due, UNMARKED | U, STORE, 1, sum, mxr, sum);
            answers(due, V | X | U, FETCH, 1, sum, mxr, false);
            answers(due, V | R | U, LOAD, 1, sum, mxr, sum);
        }
    }

    private static void fetchWithoutX(Due due) {
        for (int mode = 0; mode < 2; mode++) {
            int user = mode == 0 ? U : 0;
            answers(due, V | R | W | user, FETCH, mode, false);
            answers(due, V | R | user, FETCH, mode, false);
            answers(due, V | X | user, FETCH, mode, true);
            answers(due, V | R | X | user, FETCH, mode, true);
        }
    }

    private static void loadWithoutR(Due due) {
        for (int mode = 0; mode < 2; mode++) {
            int user = mode == 0 ? U : 0;
            for (int sum = 0; sum < 2; sum++) {
                answers(due, V | X | user, LOAD, mode, sum == 1, false, false);
                answers(due, V | X | user, LOAD, mode, sum == 1, true, true);
            }
            answers(due, V | R | user, LOAD, mode, true);
            answers(due, V | R | X | user, LOAD, mode, true);
            answers(due, V | R | W | user, LOAD, mode, true);
        }
    }

    private static void storeWithoutW(Due due) {
        for (int mode = 0; mode < 2; mode++) {
            int user = mode == 0 ? U : 0;
            answers(due, V | R | user, STORE, mode, false);
            answers(due, V | R | X | user, STORE, mode, false);
            answers(due, V | X | user, STORE, mode, false);
            answers(due, V | R | X | A | D | user, STORE, mode, false);
            answers(due, V | R | W | user, STORE, mode, true);
            answers(due, V | R | W | X | user, STORE, mode, true);
        }
    }

    /** An object whose lowest entry has these bits and lies in a region of its own, from so many bytes behind it on. */
    private static PageWalker guarded(int bits, int behind, long config) {
        PageWalker x = Due.three(bits);
        x.setNumber(0, LAST + behind >> 2);
        x.setConfigs(Due.openBehind(config));
        return x;
    }

    private static void wantsMarks(Due due) {
        // An entry that may be loaded and not stored to: what wants no marks is found all the same.
        for (int marks : new int[] {0, A, D, A | D}) {
            for (int access = FETCH; access <= STORE; access++) {
                boolean wants = (marks & A) == 0 || access == STORE && (marks & D) == 0;
                PageWalker x = guarded(UNMARKED | marks, 0, 0x19);
                due.same(of(UNMARKED | marks, access, 1), x.find(8, access, 1, 8), wants ? Due.ACCESS_FAULTS[access] : PAGE + 8);
                due.same("the entry stays", x.word(LAST), Due.entry(3, UNMARKED | marks));
            }
        }
    }

    private static void guardedMarks(Due due) {
        for (int access = FETCH; access <= STORE; access++) {
            for (int mode = 0; mode < 2; mode++) {
                int bits = UNMARKED | (mode == 0 ? U : 0);
                // R alone, R and X, the same ones locked; then with W.
                for (long config : new long[] {0x19, 0x1D, 0x99, 0x9D, 0x1B, 0x1F, 0x9B, 0x9F}) {
                    boolean open = (config & 2) != 0;
                    PageWalker x = guarded(bits, 0, config);
                    String what = of(bits, access, mode) + ", config " + config;
                    due.same(what, x.find(8, access, mode, 8), open ? PAGE + 8 : Due.ACCESS_FAULTS[access]);
                    int marked = !open ? bits : access == STORE ? bits | A | D : bits | A;
                    due.same(what + ", the entry after it", x.word(LAST), Due.entry(3, marked));
                }
            }
        }
        // The region just before the entry, and just behind it, are none of its business.
        for (int behind : new int[] {-8, 8}) {
            PageWalker x = guarded(UNMARKED, behind, 0x18);
            due.same("a region " + behind + " bytes behind", x.find(8, STORE, 1, 8), PAGE + 8);
        }
    }

    private static void marks(Due due) {
        for (int rest : new int[] {0, G, 0x300, 0x300 | G}) {
            for (int marks : new int[] {0, A, D, A | D}) {
                for (int access = FETCH; access <= STORE; access++) {
                    PageWalker x = Due.three(UNMARKED | rest | marks);
                    String what = of(UNMARKED | rest | marks, access, 1);
                    due.same(what, x.find(8, access, 1, 8), PAGE + 8);
                    int marked = UNMARKED | rest | marks | A | (access == STORE ? D : 0);
                    due.same(what + ", its marks", x.word(LAST), Due.entry(3, marked));
                    due.same(what + ", none on the way", x.word(Due.row(1, 0)), Due.entry(2, V));
                    due.same(what + ", none at the top", x.word(Due.row(0, 0)), Due.entry(1, V));
                    due.same(what + ", none in the row behind", x.word(LAST + 8), 0);
                    due.same(what + ", none in the page itself", x.word(PAGE), 0);
                }
            }
        }
        PageWalker x = Due.three(UNMARKED);
        x.find(0, LOAD, 1, 1);
        due.same("a load", x.word(LAST), Due.entry(3, UNMARKED | A));
        x.find(0, STORE, 1, 1);
        due.same("a store behind it", x.word(LAST), Due.entry(3, UNMARKED | A | D));
        x.find(0, FETCH, 1, 1);
        due.same("a fetch behind that", x.word(LAST), Due.entry(3, UNMARKED | A | D));
        x.put(LAST, Due.entry(3, UNMARKED));
        x.find(0, FETCH, 1, 1);
        due.same("a fetch after the marks were taken away", x.word(LAST), Due.entry(3, UNMARKED | A));
    }

    private static void marksOfLargePages(Due due) {
        for (int n = 3; n <= 4; n++) {
            for (int depth = 0; depth < n; depth++) {
                for (int access = FETCH; access <= STORE; access++) {
                    long number = 1L << 27 | 1L << 43;
                    PageWalker x = Due.walk(n, depth, number << 10 | UNMARKED);
                    due.same("depth " + depth + " of " + n, x.find(8, access, 1, 8), number << 12 | 8);
                    due.same("its marks", x.word(Due.place(n, depth)), number << 10 | UNMARKED | A | (access == STORE ? D : 0));
                    for (int above = depth + 1; above < n; above++) {
                        due.same("no mark at depth " + above, x.word(Due.place(n, above)), Due.entry(n - above, V));
                    }
                }
            }
        }
    }

    private static void physical(Due due) {
        for (int n = 3; n <= 4; n++) {
            for (int depth = 0; depth < n; depth++) {
                within(due, n, depth);
                rowsAreNoPart(due, n, depth);
            }
        }
    }

    private static void within(Due due, int n, int depth) {
        long size = 1L << (12 + 9 * depth);
        long lowest = 1L << 9 * depth;
        long highest = Due.ALL_PAGES >>> 9 * depth << 9 * depth;
        for (long number : new long[] {0, lowest, highest, 0x555_5555_5555L >>> 9 * depth << 9 * depth}) {
            PageWalker x = Due.walk(n, depth, number << 10 | V | R);
            for (int bit = 0; bit < 12 + 9 * depth; bit++) {
                due.same("bit " + bit + " at depth " + depth, x.find(1L << bit, LOAD, 1, 1), number << 12 | 1L << bit);
            }
            due.same("the first byte at depth " + depth, x.find(0, LOAD, 1, 8), number << 12);
            due.same("the last byte at depth " + depth, x.find(size - 1, LOAD, 1, 1), number << 12 | size - 1);
        }
    }

    /** The bits of the row of a depth, and those above them, are no part of what is found. */
    private static void rowsAreNoPart(Due due, int n, int depth) {
        int unused = 52 - 9 * n;
        long size = 1L << (12 + 9 * depth);
        PageWalker x = Due.walk(n, depth, 0);
        for (int row : new int[] {1, 255, 511}) {
            x.put(Due.place(n, depth) + 8 * row, (2L << 9 * depth) << 10 | V | R);
            long a = (long) row * size << unused >> unused;
            due.same("row " + row + " at depth " + depth + " of " + n, x.find(a, LOAD, 1, 8), 2 * size);
            due.same("its last byte", x.find(a + size - 1, LOAD, 1, 1), 3 * size - 1);
        }
        PageWalker y = Due.walk(n, depth, (2L << 9 * depth) << 10 | V | R);
        y.put(Due.row(0, 511), y.word(Due.row(0, 0)));
        y.put(Due.row(0, 256), y.word(Due.row(0, 0)));
        // The row of the topmost depth is the last one, or the one in the middle: addresses below 0.
        for (long top : new long[] {511, 256}) {
            long a = top << (3 + 9 * n) << unused >> unused;
            due.same("an address below 0 at depth " + depth + " of " + n, y.find(a | 8, LOAD, 1, 8), 2 * size + 8);
        }
    }

    private static void guardedTarget(Due due) {
        for (int rights = 0; rights < 8; rights++) {
            for (int lock = 0; lock < 2; lock++) {
                for (int access = FETCH; access <= STORE; access++) {
                    boolean r = (rights & 1) != 0;
                    boolean open = access == LOAD ? r : access == STORE ? r && (rights & 2) != 0 : (rights & 4) != 0;
                    PageWalker x = Due.three(ALL);
                    x.setNumber(0, PAGE + 16 >> 2);
                    x.setConfigs(Due.openBehind(0x10 | rights | lock << 7));
                    String what = "rights " + rights + ", access " + access;
                    long fault = Due.ACCESS_FAULTS[access];
                    due.same(what + ", all four bytes", x.find(16, access, 1, 4), open ? PAGE + 16 : fault);
                    due.same(what + ", one of them", x.find(19, access, 1, 1), open ? PAGE + 19 : fault);
                    due.same(what + ", four and four behind", x.find(16, access, 1, 8), fault);
                    due.same(what + ", one and one before", x.find(15, access, 1, 2), fault);
                    due.same(what + ", just before", x.find(8, access, 1, 8), PAGE + 8);
                    due.same(what + ", just behind", x.find(20, access, 1, 8), PAGE + 20);
                }
            }
        }
        // It is the physical address whose bytes are looked at, not the one that is to be found.
        PageWalker x = Due.three(ALL);
        x.setNumber(0, 4);
        x.setConfigs(Due.openBehind(0x10));
        due.same("a region at the address before it is found", x.find(16, LOAD, 1, 4), PAGE + 16);
    }

    private static void inItsMode(Due due) {
        // Sort 0: the three modes differ by the region alone.
        PageWalker x = new PageWalker();
        x.setNumber(0, 4);
        x.setConfigs(0x10);
        for (int access = FETCH; access <= STORE; access++) {
            for (int mode : Due.MODES) {
                long fault = Due.ACCESS_FAULTS[access];
                due.same("a region without rights, mode " + mode, x.find(16, access, mode, 4), mode == 3 ? 16 : fault);
                due.same("no region, mode " + mode, x.find(20, access, mode, 4), mode == 3 ? 20 : fault);
                due.same("a part of the region, mode " + mode, x.find(16, access, mode, 8), fault);
            }
        }
        x.setConfigs(0x90);
        due.same("a locked region in mode 3", x.find(16, STORE, 3, 4), -7);
        // By a table: modes 0 and 1 need a region that lets the very access through.
        for (int mode = 0; mode < 2; mode++) {
            PageWalker y = Due.three(ALL | (mode == 0 ? U : 0));
            y.setNumber(0, PAGE >> 2);
            y.setConfigs(Due.openBehind(0x14));
            due.same("a fetch by X, mode " + mode, y.find(0, FETCH, mode, 4), PAGE);
            due.same("a load by X, mode " + mode, y.find(0, LOAD, mode, 4), -5);
            due.same("a store by X, mode " + mode, y.find(0, STORE, mode, 4), -7);
            y.setConfigs(Due.openBehind(0x11));
            due.same("a fetch by R, mode " + mode, y.find(0, FETCH, mode, 4), -1);
            due.same("a load by R, mode " + mode, y.find(0, LOAD, mode, 4), PAGE);
            due.same("a store by R, mode " + mode, y.find(0, STORE, mode, 4), -7);
        }
        // A load by MXR is a load for the regions too.
        PageWalker mxr = Due.three(V | X);
        mxr.rights(false, true);
        mxr.setNumber(0, PAGE >> 2);
        mxr.setConfigs(Due.openBehind(0x14));
        due.same("a load by MXR of a region with X", mxr.find(0, LOAD, 1, 4), -5);
    }

    private static void marksStay(Due due) {
        for (int access = FETCH; access <= STORE; access++) {
            PageWalker x = Due.three(UNMARKED);
            x.setNumber(0, PAGE >> 2);
            x.setConfigs(Due.openBehind(0x10));
            due.same("a page that is held back", x.find(0, access, 1, 4), Due.ACCESS_FAULTS[access]);
            due.same("the marks stay", x.word(LAST), Due.entry(3, UNMARKED | A | (access == STORE ? D : 0)));
            due.same("and again", x.find(0, access, 1, 8), Due.ACCESS_FAULTS[access]);
            due.same("the marks stay again", x.word(LAST), Due.entry(3, UNMARKED | A | (access == STORE ? D : 0)));
        }
        // The entry itself is the target: it is marked before its bytes are looked at, and they are held back.
        PageWalker self = Due.walk(3, 0, Due.entry(2, UNMARKED));
        self.setNumber(0, LAST >> 2);
        self.setConfigs(Due.openBehind(0x1B));
        due.same("a fetch of the entry itself", self.find(0, FETCH, 1, 8), -1);
        due.same("its mark stays", self.word(LAST), Due.entry(2, UNMARKED | A));
        due.same("a store to the entry itself", self.find(0, STORE, 1, 8), LAST);
        due.same("its marks", self.word(LAST), Due.entry(2, UNMARKED | A | D));
    }

    private static void noMemoryThere(Due due) {
        long[] pages = {0, 1, Due.MEMORY_PAGE - 1, Due.MEMORY_PAGE + 16, 1L << 20, 1L << 43, Due.ALL_PAGES};
        for (long page : pages) {
            for (int access = FETCH; access <= STORE; access++) {
                PageWalker x = Due.walk(3, 0, page << 10 | UNMARKED);
                due.same("a page at " + page, x.find(0xFF8, access, 1, 8), page << 12 | 0xFF8);
                due.same("its marks", x.word(LAST), page << 10 | UNMARKED | A | (access == STORE ? D : 0));
            }
        }
        PageWalker x = Due.open();
        due.same("sort 0, just before memory", x.find(Due.MEMORY - 8, LOAD, 1, 8), Due.MEMORY - 8);
        due.same("sort 0, just behind memory", x.find(Due.LAST_WORD + 8, STORE, 0, 8), Due.LAST_WORD + 8);
        due.same("mode 3, the highest address", x.find(Due.TOP, FETCH, 3, 1), Due.TOP);
    }

    private static void everyLastEntry(Due due) {
        for (int bits = 0; bits < 256; bits++) {
            for (int given = 0; given < 4; given++) {
                for (int mode = 0; mode < 2; mode++) {
                    for (int access = FETCH; access <= STORE; access++) {
                        lastEntry(due, bits, (given & 1) != 0, (given & 2) != 0, mode, access);
                    }
                }
            }
        }
    }

    private static void lastEntry(Due due, int bits, boolean sum, boolean mxr, int mode, int access) {
        boolean r = (bits & R) != 0;
        boolean w = (bits & W) != 0;
        boolean x = (bits & X) != 0;
        boolean user = (bits & U) != 0;
        boolean last = (bits & V) != 0 && (r || x) && (r || !w);
        boolean modeOpen = mode == 0 ? user : !user || sum && access != FETCH;
        boolean accessOpen = access == FETCH ? x : access == LOAD ? r || mxr && x : w;
        answers(due, bits, access, mode, sum, mxr, last && modeOpen && accessOpen);
    }
}
