/** Promise 13 (fence): nothing that can be seen changes, and nothing found before is seen again without it. */
public final class FenceTest {
    private static final int LOAD = PageWalker.LOAD, STORE = PageWalker.STORE;
    private static final long PAGE = Due.MEMORY + 3 * 4096;

    public static void main(String[] args) {
        Due due = new Due();
        nothingChanges(due);
        changesAreSeenWithoutIt(due);
        due.end();
    }

    private static PageWalker filled() {
        PageWalker x = Due.three(Due.V | Due.R | Due.W | Due.U);
        x.setNumber(2, 12_345);
        x.setConfigs(Due.openBehind(0x8D_0000L));
        x.rights(true, true);
        return x;
    }

    private static void nothingChanges(Due due) {
        PageWalker x = filled();
        PageWalker y = filled();
        x.fence();
        same(due, x, y);
        due.same("find behind a fence", x.find(8, STORE, Due.SUPERVISOR, 8), y.find(8, STORE, Due.SUPERVISOR, 8));
        x.fence();
        x.fence();
        same(due, x, y);
    }

    private static void same(Due due, PageWalker x, PageWalker y) {
        for (long a = Due.MEMORY; a < Due.MEMORY + 65_536; a += 8) {
            due.same("word(" + a + ") behind a fence", x.word(a), y.word(a));
        }
        due.same("table() behind a fence", x.table(), y.table());
        due.same("configs() behind a fence", x.configs(), y.configs());
        for (int i = 0; i < 8; i++) {
            due.same("number(" + i + ") behind a fence", x.number(i), y.number(i));
        }
    }

    private static void changesAreSeenWithoutIt(Due due) {
        PageWalker x = Due.three(Due.V | Due.R | Due.W);
        due.same("found", x.find(0, LOAD, Due.SUPERVISOR, 8), PAGE);
        x.put(Due.row(2, 0), Due.entry(4, Due.V | Due.R));
        due.same("another page", x.find(0, LOAD, Due.SUPERVISOR, 8), PAGE + 4096);
        due.same("its mark", x.word(Due.row(2, 0)), Due.entry(4, Due.V | Due.R | Due.A));
        due.same("no longer to store", x.find(0, STORE, Due.SUPERVISOR, 8), -15);
        x.put(Due.row(1, 0), 0);
        due.same("no longer there", x.find(0, LOAD, Due.SUPERVISOR, 8), -13);
        x.setConfigs(0);
        due.same("no longer let through", x.find(0, LOAD, Due.SUPERVISOR, 8), -5);
        x.setTable(0);
        x.setConfigs(Due.openBehind(0));
        due.same("no longer a table", x.find(0, LOAD, Due.SUPERVISOR, 8), 0);
        x.setTable(Due.SORT_THREE | Due.MEMORY_PAGE + 9);
        due.same("another table", x.find(0, LOAD, Due.SUPERVISOR, 8), -13);
    }
}
