/** Promises 4 (table) and 5 (setTable). */
public final class TableTest {
    public static void main(String[] args) {
        Due due = new Due();
        long[] rests = {0, 1, (1L << 44) - 1, 1L << 44, 0x0ABC_DEF0_1234_5678L, (1L << 60) - 1};
        for (long rest : rests) {
            for (int sort = 0; sort < 16; sort++) {
                oneSort(due, sort, rest);
            }
        }
        due.end();
    }

    private static void oneSort(Due due, int sort, long rest) {
        PageWalker x = new PageWalker();
        long before = Due.SORT_FOUR | 77;
        x.setTable(before);
        long t = (long) sort << 60 | rest;
        if (sort == 0 || sort == 8 || sort == 9) {
            x.setTable(t);
            due.same("table() after setTable(" + t + ")", x.table(), t);
        } else {
            due.refuses("setTable(" + t + ")", IllegalArgumentException.class, () -> x.setTable(t));
            due.same("table() after setTable(" + t + ") was refused", x.table(), before);
        }
    }
}
