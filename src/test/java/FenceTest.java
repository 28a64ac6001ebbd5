/** Promise 13 (fence): nothing that can be seen changes, so that no answer may need it either. */
public final class FenceTest {
    private static final int FETCH = PageWalker.FETCH, LOAD = PageWalker.LOAD, STORE = PageWalker.STORE;
    private static final int V = Due.V, R = Due.R, W = Due.W, X = Due.X, U = Due.U, A = Due.A, D = Due.D;
    private static final long PAGE = Due.MEMORY + 3 * 4096;

    public static void main(String[] args) {
        Due due = new Due();
        due.sentence("Promise 13: nothing that can be seen changes", FenceTest::nothingChanges);
        due.sentence("Promise 13: nothing that can be seen changes -- in any word", FenceTest::noWordChanges);
        due.sentence("Promise 13: nothing that can be seen changes -- the rights and the locks", FenceTest::rightsAndLocks);
        due.sentence("Promise 13: What was found before need not be remembered", FenceTest::changesAreSeen);
        due.end();
    }

    private static void nothingChanges(Due due) {
        PageWalker fresh = new PageWalker();
        long[] zeros = Due.state(fresh);
        fresh.fence();
        due.unchanged("a fence in a new object", fresh, zeros);
        PageWalker x = Due.filled();
        long[] before = Due.state(x);
        x.fence();
        due.unchanged("a fence", x, before);
        due.same("a store behind it", x.find(8, STORE, 1, 8), PAGE + 8);
        long[] marked = Due.state(x);
        x.fence();
        x.fence();
        due.unchanged("two fences behind a store", x, marked);
        due.same("the marks stay", x.word(Due.row(2, 0)), Due.entry(3, V | R | W | X | U | A | D));
        due.same("a load behind them", x.find(8, LOAD, 1, 8), PAGE + 8);
        due.same("a fetch behind them", x.find(8, FETCH, 0, 8), PAGE + 8);
    }

    private static void noWordChanges(Due due) {
        for (long from = Due.MEMORY; from <= Due.LAST_WORD; from += 8 * 250) {
            PageWalker x = new PageWalker();
            for (long a = from; a <= Due.LAST_WORD && a < from + 8 * 250; a += 8) {
                x.put(a, a * 31);
            }
            x.fence();
            for (long a = from; a <= Due.LAST_WORD && a < from + 8 * 250; a += 8) {
                due.same("word(" + a + ") behind a fence", x.word(a), a * 31);
            }
        }
    }

    private static void rightsAndLocks(Due due) {
        PageWalker x = Due.three(V | X | U);
        x.rights(true, true);
        x.setNumber(1, 100);
        x.setNumber(2, 200);
        x.setConfigs(Due.openBehind(0x88_0000L));
        x.fence();
        due.same("a load by SUM and MXR", x.find(8, LOAD, 1, 8), PAGE + 8);
        x.setNumber(1, 5);
        x.setNumber(2, 6);
        x.setConfigs(Due.openBehind(0));
        due.same("the number before a locked region", x.number(1), 100);
        due.same("the number of a locked region", x.number(2), 200);
        due.same("the config of a locked region", x.configs(), Due.openBehind(0x88_0000L));
        x.rights(false, false);
        x.fence();
        due.same("a load when the rights are taken away", x.find(8, LOAD, 1, 8), -13);
    }

    /** With a fence behind each call and without one, every change is seen by the next find. */
    private static void changesAreSeen(Due due) {
        changes(due, false);
        changes(due, true);
    }

    private static void changes(Due due, boolean fences) {
        PageWalker x = Due.three(V | R | W | X);
        Step step = new Step(due, x, fences);
        step.finds("at first", LOAD, PAGE);
        step.finds("a store", STORE, PAGE);
        x.put(Due.row(2, 0), Due.entry(4, V | R));
        step.finds("another page", LOAD, PAGE + 4096);
        due.same("its mark", x.word(Due.row(2, 0)), Due.entry(4, V | R | A));
        step.finds("no longer to store", STORE, -15);
        x.put(Due.row(2, 0), Due.entry(4, V | R | W));
        step.finds("to store again", STORE, PAGE + 4096);
        due.same("its marks", x.word(Due.row(2, 0)), Due.entry(4, V | R | W | A | D));
        x.put(Due.row(2, 0), Due.entry(4, V | X | U));
        step.finds("a user's page to fetch", LOAD, -13);
        x.rights(true, true);
        step.finds("with both rights", LOAD, PAGE + 4096);
        x.rights(true, false);
        step.finds("without MXR", LOAD, -13);
        x.rights(false, true);
        step.finds("without SUM", LOAD, -13);
        x.put(Due.row(2, 0), Due.entry(4, V | R));
        x.put(Due.row(5, 0), Due.entry(6, V | R));
        x.put(Due.row(1, 0), Due.entry(5, V));
        step.finds("another lowest table", LOAD, PAGE + 3 * 4096);
        x.put(Due.row(1, 0), 0);
        step.finds("no lowest table", LOAD, -13);
        x.put(Due.row(1, 0), Due.entry(2, V));
        step.finds("the first one again", LOAD, PAGE + 4096);
        x.put(Due.row(0, 0), V | R);
        step.finds("a large page", LOAD, 0);
        x.put(Due.row(0, 0), Due.entry(1, V));
        regionsChange(step, x);
        x.setTable(Due.SORT_FOUR | Due.MEMORY_PAGE);
        step.finds("four depths", LOAD, -13);
        x.setTable(Due.MEMORY_PAGE);
        step.finds("no depths", LOAD, 0);
        x.setTable(Due.SORT_THREE | Due.MEMORY_PAGE + 9);
        step.finds("another table", LOAD, -13);
        x.setTable(Due.SORT_THREE | Due.MEMORY_PAGE);
        step.finds("the first table again", LOAD, PAGE + 4096);
    }

    private static void regionsChange(Step step, PageWalker x) {
        step.finds("before the regions change", LOAD, PAGE + 4096);
        x.setConfigs(0);
        step.finds("no region", LOAD, -5);
        x.setConfigs(Due.openBehind(0x18));
        step.finds("a region somewhere else", LOAD, PAGE + 4096);
        for (long place : new long[] {Due.row(0, 0), Due.row(1, 0), Due.row(2, 0), PAGE + 4096}) {
            x.setNumber(0, place >> 2);
            step.finds("a region at " + place, LOAD, -5);
            x.setNumber(0, 0);
            step.finds("the region somewhere else again", LOAD, PAGE + 4096);
        }
        x.setConfigs(Due.openBehind(0));
    }

    /** Finds of address 0 in mode 1. */
    private static final class Step {
        private final Due due;
        private final PageWalker x;
        private final boolean fences;

        Step(Due due, PageWalker x, boolean fences) {
            this.due = due;
            this.x = x;
            this.fences = fences;
        }

        void finds(String what, int access, long wanted) {
            for (int time = 1; time <= 2; time++) {
                if (fences) {
                    x.fence();
                }
                due.same(what + ", fences " + fences + ", time " + time, x.find(0, access, 1, 8), wanted);
            }
        }
    }
}
