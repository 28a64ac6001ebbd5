/** "Terms" on the table and the rights, and promises 4 (table), 5 (setTable) and 6 (rights). */
public final class TableTest {
    private static final int FETCH = PageWalker.FETCH, LOAD = PageWalker.LOAD, STORE = PageWalker.STORE;
    private static final long PAGE = Due.MEMORY + 3 * 4096;
    private static final long[] RESTS = {0, 1, Due.ALL_PAGES, 1L << 44, 0x0ABC_DEF0_1234_5678L, (1L << 60) - 1};

    public static void main(String[] args) {
        Due due = new Due();
        due.sentence("THE TABLE is a long", TableTest::wholeLong);
        due.sentence("bits 60..63 are its SORT (0, 8 or 9)", TableTest::sorts);
        due.sentence("bits 0..43 the number of a page", TableTest::numberOfAPage);
        due.sentence("SUM and MXR are rights that are given or not.", TableTest::rightsAreApart);
        due.sentence("Promise 4: The table.", TableTest::tableIsSeen);
        due.sentence("Promise 5: The table becomes t.", TableTest::becomes);
        due.sentence("Promise 5: IllegalArgumentException: its sort is none of 0, 8, 9.", TableTest::refusedSorts);
        due.sentence("Promise 6: The rights are given, or not.", TableTest::givenOrNot);
        due.end();
    }

    private static void wholeLong(Due due) {
        PageWalker x = new PageWalker();
        for (long sort : new long[] {0, 8, 9}) {
            for (int bit = 0; bit < 60; bit++) {
                x.setTable(sort << 60 | 1L << bit);
                due.same("table() with sort " + sort + " and bit " + bit, x.table(), sort << 60 | 1L << bit);
            }
            x.setTable(sort << 60 | (1L << 60) - 1);
            due.same("table() with sort " + sort + " and all other bits", x.table(), sort << 60 | (1L << 60) - 1);
        }
    }

    private static void sorts(Due due) {
        // The lowest entry of three depths, or the one above it, by the number of the depths.
        PageWalker x = Due.three(Due.V | Due.R);
        due.same("sort 8", x.find(8, LOAD, 1, 8), PAGE + 8);
        x.setTable(Due.MEMORY_PAGE);
        due.same("sort 0", x.find(8, LOAD, 1, 8), 8);
        x.setTable(Due.SORT_FOUR | Due.MEMORY_PAGE);
        due.same("sort 9, a number that is none of a large page", x.find(8, LOAD, 1, 8), -13);
        x.put(Due.row(2, 0), 512L << 10 | Due.V | Due.R);
        due.same("sort 9, a large page", x.find(8, LOAD, 1, 8), 512 * 4096 + 8);
    }

    private static void numberOfAPage(Due due) {
        PageWalker x = Due.three(Due.V | Due.R);
        for (int bit = 0; bit < 60; bit++) {
            x.setTable(Due.SORT_THREE | Due.MEMORY_PAGE ^ 1L << bit);
            // Bits 0 .. 3 lead to another page of memory, the next ones out of it, and those behind do not matter.
            long wanted = bit < 4 ? -13 : bit < 44 ? -5 : PAGE + 8;
            due.same("bit " + bit + " of the table", x.find(8, LOAD, 1, 8), wanted);
        }
        x.setTable(Due.SORT_THREE | Due.MEMORY_PAGE | 0xFFFFL << 44);
        due.same("bits 44..59 of the table", x.find(8, LOAD, 1, 8), PAGE + 8);
        x.setTable(Due.SORT_THREE | Due.ALL_PAGES);
        due.same("the highest page", x.find(8, LOAD, 1, 8), -5);
        PageWalker last = Due.open();
        last.setTable(Due.SORT_THREE | Due.MEMORY_PAGE + 15);
        last.put(Due.row(15, 0), Due.V | Due.R);
        due.same("a table on the last page of memory", last.find(8, LOAD, 1, 8), 8);
    }

    private static void rightsAreApart(Due due) {
        for (int given = 0; given < 4; given++) {
            boolean sum = (given & 1) != 0;
            boolean mxr = (given & 2) != 0;
            PageWalker user = Due.three(Due.V | Due.R | Due.W | Due.U);
            user.rights(sum, mxr);
            due.same("a user's page, rights " + given, user.find(8, LOAD, 1, 8), sum ? PAGE + 8 : -13);
            due.same("store to a user's page, rights " + given, user.find(8, STORE, 1, 8), sum ? PAGE + 8 : -15);
            PageWalker fetched = Due.three(Due.V | Due.X);
            fetched.rights(sum, mxr);
            due.same("a page to fetch, rights " + given, fetched.find(8, LOAD, 1, 8), mxr ? PAGE + 8 : -13);
        }
    }

    private static void tableIsSeen(Due due) {
        PageWalker x = new PageWalker();
        due.same("table() at first", x.table(), 0);
        x.setTable(Due.SORT_FOUR | 77);
        due.same("table()", x.table(), Due.SORT_FOUR | 77);
        x.put(Due.MEMORY, 1);
        x.setNumber(0, -1);
        x.setConfigs(-1);
        x.rights(true, true);
        x.find(0, FETCH, 1, 1);
        x.fence();
        due.same("table() after other calls", x.table(), Due.SORT_FOUR | 77);
    }

    private static void becomes(Due due) {
        PageWalker x = new PageWalker();
        for (long rest : RESTS) {
            for (long sort : new long[] {9, 0, 8}) {
                x.setTable(sort << 60 | rest);
                due.same("table() after sort " + sort + " with " + rest, x.table(), sort << 60 | rest);
            }
        }
        x.setTable(0);
        due.same("table() after 0", x.table(), 0);
    }

    private static void refusedSorts(Due due) {
        for (long sort : new long[] {1, 2, 3, 4, 5, 6, 7, 10, 11, 12, 13, 14, 15}) {
            PageWalker x = Due.filled();
            long[] before = Due.state(x);
            for (long rest : RESTS) {
                long t = sort << 60 | rest;
                due.refuses("setTable(" + t + ")", IllegalArgumentException.class, () -> x.setTable(t));
            }
            due.unchanged("refused tables of sort " + sort, x, before);
            due.same("find by the table of before", x.find(8, LOAD, 1, 8), PAGE + 8);
        }
    }

    private static void givenOrNot(Due due) {
        PageWalker x = Due.three(Due.V | Due.X | Due.U);
        // A load in mode 1 needs both rights here; each call tells both anew.
        boolean[][] calls = {{true, false}, {false, true}, {true, true}, {false, true}, {true, true}, {true, false}, {true, true}, {false, false}};
        for (boolean[] call : calls) {
            x.rights(call[0], call[1]);
            due.same("load with " + call[0] + ", " + call[1], x.find(8, LOAD, 1, 8), call[0] && call[1] ? PAGE + 8 : -13);
            due.same("load of the user with " + call[1], x.find(8, LOAD, 0, 8), call[1] ? PAGE + 8 : -13);
        }
        x.rights(true, true);
        PageWalker sum = Due.three(Due.V | Due.R | Due.U);
        due.same("SUM of another object", sum.find(8, LOAD, 1, 8), -13);
        PageWalker mxr = Due.three(Due.V | Due.X);
        due.same("MXR of another object", mxr.find(8, LOAD, 1, 8), -13);
    }
}
