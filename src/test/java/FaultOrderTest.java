/** "Each access is .. refused with the fault that comes first": every set of faults at once. */
public final class FaultOrderTest {
    private static final int FETCH = PageWalker.FETCH, STORE = PageWalker.STORE;
    private static final int V = Due.V, R = Due.R, W = Due.W, X = Due.X, U = Due.U, A = Due.A, D = Due.D;
    private static final int BITS = V | R | W | X | U;

    /** The faults of a walk of three depths, in the order in which the document names them. */
    private static final int
            ADDRESS = 1, TOP_GUARDED = 1 << 1, TOP_BAD = 1 << 2, MIDDLE_GUARDED = 1 << 3, MIDDLE_BAD = 1 << 4,
            LOW_GUARDED = 1 << 5, LOW_BAD = 1 << 6, NOT_GRANTED = 1 << 7, MARKS_GUARDED = 1 << 8, TARGET_GUARDED = 1 << 9;
    private static final int ALL_FAULTS = (1 << 10) - 1;
    private static final int PAGE_FAULTS = ADDRESS | TOP_BAD | MIDDLE_BAD | LOW_BAD | NOT_GRANTED;

    public static void main(String[] args) {
        Due due = new Due();
        due.sentence("or refused with the fault that comes first", FaultOrderTest::everySet);
        due.sentence("or refused with the fault that comes first -- tables that are not in memory", FaultOrderTest::lostTables);
        due.sentence("or refused with the fault that comes first -- each way of a bad entry", FaultOrderTest::badEntries);
        due.sentence("or refused with the fault that comes first -- a wrong call before all", FaultOrderTest::wrongCalls);
        due.end();
    }

    private static PageWalker with(int faults) {
        PageWalker x = new PageWalker();
        x.setTable(Due.SORT_THREE | Due.MEMORY_PAGE);
        x.put(Due.row(0, 0), Due.entry(1, V) & ~((faults & TOP_BAD) != 0 ? V : 0));
        x.put(Due.row(1, 0), Due.entry(2, V) | ((faults & MIDDLE_BAD) != 0 ? D : 0));
        long low = Due.entry(3, (faults & NOT_GRANTED) != 0 ? BITS & ~U : BITS);
        x.put(Due.row(2, 0), (faults & LOW_BAD) != 0 ? low | 1L << 63 : low);
        x.setNumber(0, Due.row(0, 0) >> 2);
        x.setNumber(1, Due.row(1, 0) >> 2);
        x.setNumber(2, Due.row(2, 0) >> 2);
        x.setNumber(3, Due.row(3, 0) >> 2);
        x.setNumber(7, -1);
        long top = (faults & TOP_GUARDED) != 0 ? 0x18 : 0x19;
        long middle = (faults & MIDDLE_GUARDED) != 0 ? 0x18 : 0x19;
        long last = (faults & LOW_GUARDED) != 0 ? 0x1C : (faults & MARKS_GUARDED) != 0 ? 0x19 : 0x1B;
        long target = (faults & TARGET_GUARDED) != 0 ? 0x18 : 0x1F;
        x.setConfigs(Due.openBehind(target << 24 | last << 16 | middle << 8 | top));
        return x;
    }

    private static long due(int faults, int access) {
        int first = Integer.lowestOneBit(faults);
        if (first == 0) {
            return Due.row(3, 0);
        }
        return (first & PAGE_FAULTS) != 0 ? Due.PAGE_FAULTS[access] : Due.ACCESS_FAULTS[access];
    }

    private static void everySet(Due due) {
        for (int faults = 0; faults <= ALL_FAULTS; faults++) {
            for (int access = FETCH; access <= STORE; access++) {
                PageWalker x = with(faults);
                long before = x.word(Due.row(2, 0));
                // A bit above all rows, so that the walk of a wrong address would meet the other faults too.
                long a = (faults & ADDRESS) != 0 ? 1L << 62 : 0;
                String what = "the faults " + Integer.toBinaryString(faults) + ", access " + access;
                due.same(what, x.find(a, access, 0, 8), due(faults, access));
                // Marks are put when no fault comes before them, and stay after the one that comes behind them.
                boolean marked = (faults & ~TARGET_GUARDED) == 0;
                due.same(what + ", the entry after it", x.word(Due.row(2, 0)),
                        marked ? before | A | (access == STORE ? D : 0) : before);
            }
        }
    }

    private static void lostTables(Due due) {
        for (int access = FETCH; access <= STORE; access++) {
            long accessFault = Due.ACCESS_FAULTS[access];
            long pageFault = Due.PAGE_FAULTS[access];
            PageWalker x = Due.open();
            x.setTable(Due.SORT_THREE);
            due.same("a wrong address and no table", x.find(1L << 62, access, 1, 1), pageFault);
            due.same("no table", x.find(0, access, 1, 1), accessFault);
            for (int depth = 1; depth < 3; depth++) {
                // The entry of the depth leads out of memory; it is bad as well, or good.
                x = Due.walk(3, depth, V);
                due.same("a table lost below depth " + depth, x.find(0, access, 1, 1), accessFault);
                for (long bad : new long[] {0, V | W, V | U, V | A, V | D, V | 1L << 54, V | 1L << 63}) {
                    x.put(Due.place(3, depth), bad);
                    due.same("and the entry " + bad, x.find(0, access, 1, 1), pageFault);
                }
            }
            x = Due.walk(3, 0, V);
            due.same("a table lost below the lowest depth", x.find(0, access, 1, 1), pageFault);
        }
    }

    private static void badEntries(Due due) {
        // What is not let through is not looked at: a guarded entry gives an access fault, whatever is in it.
        long[] bad = {0, -1, V, V | W, V | W | X, V | U, Due.entry(3, V | R | W | X) | 1L << 54, Due.entry(3, V | R)};
        for (int access = FETCH; access <= STORE; access++) {
            for (int depth = 0; depth < 3; depth++) {
                for (long entry : bad) {
                    PageWalker x = Due.walk(3, depth, entry);
                    x.setNumber(0, Due.place(3, depth) >> 2);
                    x.setConfigs(Due.openBehind(0x1C));
                    due.same("guarded entry " + entry + " at depth " + depth, x.find(0, access, 0, 8), Due.ACCESS_FAULTS[access]);
                    due.same("it stays", x.word(Due.place(3, depth)), entry);
                }
            }
        }
        // Each page fault of the last entry comes before the guard of its marks.
        long[] last = {
            Due.entry(3, V | R | W | X), Due.entry(3, V | U | R | W | X) | 1L << 60, Due.entry(3, U | R | W | X),
            Due.entry(3, V | U | W | X), Due.entry(3, V | U), Due.entry(3, V),
        };
        for (int access = FETCH; access <= STORE; access++) {
            for (long entry : last) {
                lastGuarded(due, 0, entry, access);
            }
            lastGuarded(due, 1, Due.entry(3, BITS), access);
            lastGuarded(due, 2, 1L << 17 << 10 | BITS, access);
        }
        lastGuarded(due, 0, Due.entry(3, V | U | R | W), FETCH);
        lastGuarded(due, 0, Due.entry(3, V | U | X), PageWalker.LOAD);
        lastGuarded(due, 0, Due.entry(3, V | U | R | X), STORE);
    }

    private static void lastGuarded(Due due, int depth, long entry, int access) {
        PageWalker x = Due.walk(3, depth, entry);
        x.setNumber(0, Due.place(3, depth) >> 2);
        x.setConfigs(Due.openBehind(0x1D));
        due.same("entry " + entry + " without room for marks, access " + access, x.find(0, access, 0, 8), Due.PAGE_FAULTS[access]);
        due.same("it stays", x.word(Due.place(3, depth)), entry);
    }

    private static void wrongCalls(Due due) {
        for (int faults = 0; faults <= ALL_FAULTS; faults += 11) {
            PageWalker x = with(faults);
            long[] before = Due.state(x);
            for (long a : new long[] {0, 1L << 38, 1L << 56, -4096}) {
                due.refuses("a wrong access", IllegalArgumentException.class, () -> x.find(a, 3, 0, 8));
                due.refuses("a wrong mode", IllegalArgumentException.class, () -> x.find(a, 1, 2, 8));
                due.refuses("a wrong size", IllegalArgumentException.class, () -> x.find(a, 1, 0, 3));
                due.refuses("over the end of the page", IllegalArgumentException.class, () -> x.find(a + 4093, 1, 0, 4));
            }
            due.unchanged("wrong calls", x, before);
        }
    }
}
