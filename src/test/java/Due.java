/** What the project's tests share: answers against those that are due, and words of tables. */
final class Due {
    static final long MEMORY = 1L << 31;
    static final long MEMORY_PAGE = MEMORY >> 12;
    static final int V = 1, R = 2, W = 4, X = 8, U = 16, G = 32, A = 64, D = 128;
    static final int USER = 0, SUPERVISOR = 1, MACHINE = 3;
    static final long SORT_THREE = 8L << 60, SORT_FOUR = 9L << 60;

    private int answers = 0;
    private int wrong = 0;

    /** A call that may throw. */
    interface Call {
        void run();
    }

    void same(String call, long got, long due) {
        answers++;
        if (got != due) {
            wrong++;
            System.out.println(call + " answered " + got + ", due is " + due);
        }
    }

    void same(String call, boolean got, boolean due) {
        same(call, got ? 1 : 0, due ? 1 : 0);
    }

    /** The exception must be of the very class that the document names, and thrown by the program. */
    void refuses(String call, Class<? extends RuntimeException> due, Call made) {
        answers++;
        String got = "nothing";
        try {
            made.run();
        } catch (RuntimeException e) {
            if (e.getClass() == due && e.getStackTrace()[0].getClassName().startsWith("PageWalker")) {
                return;
            }
            got = e.toString();
        }
        wrong++;
        System.out.println(call + " threw " + got + ", due is " + due.getName());
    }

    void end() {
        System.out.println(answers + " answers, " + wrong + " not as due");
        if (wrong != 0 || answers == 0) {
            System.exit(1);
        }
    }

    /** The address of a row of the table that fills page i of the memory. */
    static long row(int page, int row) {
        return MEMORY + 4096L * page + 8L * row;
    }

    /** An entry that bears the number of page i of the memory. */
    static long entry(int page, int bits) {
        return (MEMORY_PAGE + page) << 10 | bits;
    }

    /** A config for all addresses in region 7, with what the lower regions have. */
    static long openBehind(long lower) {
        return 0x1FL << 56 | lower;
    }

    /** A new object whose region 7 lets every access through that no region before it covers. */
    static PageWalker open() {
        PageWalker x = new PageWalker();
        x.setNumber(7, -1L);
        x.setConfigs(openBehind(0));
        return x;
    }

    /** Tables of three depths in the pages 0, 1, 2: address 0 is page 3, which the lowest entry grants by its bits. */
    static PageWalker three(int bits) {
        PageWalker x = open();
        x.setTable(SORT_THREE | MEMORY_PAGE);
        x.put(row(0, 0), entry(1, V));
        x.put(row(1, 0), entry(2, V));
        x.put(row(2, 0), entry(3, bits));
        return x;
    }
}
