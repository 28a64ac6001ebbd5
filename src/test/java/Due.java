import java.util.function.Consumer;

/** What the project's tests share: answers against those that are due, and objects with tables in them. */
final class Due {
    static final int USER = 0, SUPERVISOR = 1, MACHINE = 3;
    static final int[] MODES = {USER, SUPERVISOR, MACHINE};
    static final long[] ACCESS_FAULTS = {-1, -5, -7};
    static final long[] PAGE_FAULTS = {-12, -13, -15};

    static final long MEMORY = 1L << 31;
    static final long MEMORY_PAGE = MEMORY >> 12;
    static final long LAST_WORD = MEMORY + 65_528;
    /** The highest address whose bits 56..63 are 0. */
    static final long TOP = (1L << 56) - 1;
    static final long ALL_PAGES = (1L << 44) - 1;
    static final long ALL_NUMBER = (1L << 54) - 1;

    static final int V = 1, R = 2, W = 4, X = 8, U = 16, G = 32, A = 64, D = 128;
    static final long SORT_THREE = 8L << 60, SORT_FOUR = 9L << 60;

    private int sentences = 0;
    private int answers = 0;
    private int wrong = 0;
    private String words = "";

    /** A call that may throw. */
    interface Call {
        void run();
    }

    /** The test of one sentence of the document: its words stand before each answer that is not as due. */
    void sentence(String words, Consumer<Due> test) {
        this.words = words;
        int before = answers;
        sentences++;
        try {
            test.accept(this);
        } catch (RuntimeException e) {
            tell("a call threw " + e);
        }
        if (answers == before) {
            tell("nothing was asked");
        }
        this.words = "";
    }

    void same(String call, long got, long due) {
        answers++;
        if (got != due) {
            tell(call + " answered " + got + ", due is " + due);
        }
    }

    void same(String call, boolean got, boolean due) {
        same(call, got ? 1 : 0, due ? 1 : 0);
    }

    /** The exception must be of the very class that the document names, and thrown by the program. */
    void refuses(String call, Class<? extends RuntimeException> due, Call made) {
        answers++;
        String got = "nothing";
        try {
            made.run();
        } catch (RuntimeException e) {
            if (e.getClass() == due && e.getStackTrace()[0].getClassName().startsWith("PageWalker")) {
                return;
            }
            got = e.toString();
        }
        tell(call + " threw " + got + ", due is " + due.getName());
    }

    private void tell(String what) {
        wrong++;
        System.out.println("[" + words + "] " + what);
    }

    void end() {
        System.out.println(sentences + " sentences, " + answers + " answers, " + wrong + " not as due");
        if (wrong != 0 || answers == 0) {
            System.exit(1);
        }
    }

    /** The address of a row of the table that fills page i of the memory. */
    static long row(int page, int row) {
        return MEMORY + 4096L * page + 8L * row;
    }

    /** An entry that bears the number of page i of the memory. */
    static long entry(int page, int bits) {
        return (MEMORY_PAGE + page) << 10 | bits;
    }

    static long sort(int depths) {
        return depths == 3 ? SORT_THREE : SORT_FOUR;
    }

    /** Configs for all addresses in region 7, with what the lower regions have. */
    static long openBehind(long lower) {
        return 0x1FL << 56 | lower;
    }

    /** A new object whose region 7 lets every access through that no region before it covers. */
    static PageWalker open() {
        PageWalker x = new PageWalker();
        x.setNumber(7, -1L);
        x.setConfigs(openBehind(0));
        return x;
    }

    /** The place of the entry of a depth in the tables that walk() makes. */
    static long place(int depths, int depth) {
        return row(depths - 1 - depth, 0);
    }

    /** Tables from page 0 on, one page for each depth: their rows 0 lead on to the entry that is told, at its depth. */
    static PageWalker walk(int depths, int depth, long entry) {
        PageWalker x = open();
        x.setTable(sort(depths) | MEMORY_PAGE);
        for (int above = depths - 1; above > depth; above--) {
            x.put(place(depths, above), entry(depths - above, V));
        }
        x.put(place(depths, depth), entry);
        return x;
    }

    /** Tables of three depths in the pages 0, 1, 2: address 0 is page 3, which the lowest entry grants by its bits. */
    static PageWalker three(int bits) {
        return walk(3, 0, entry(3, bits));
    }

    /** What a refused call must leave as it was, as far as sixteen calls can see it. */
    static long[] state(PageWalker x) {
        long[] state = new long[16];
        for (int region = 0; region < 8; region++) {
            state[region] = x.number(region);
        }
        state[8] = x.configs();
        state[9] = x.table();
        state[10] = x.word(MEMORY);
        state[11] = x.word(LAST_WORD);
        state[12] = x.word(row(1, 0));
        state[13] = x.word(row(2, 0));
        state[14] = x.word(MEMORY + 8);
        state[15] = x.word(LAST_WORD - 8);
        return state;
    }

    /** An object in which all that state() sees is another value than 0 at first. */
    static PageWalker filled() {
        PageWalker x = three(V | R | W | X | U);
        for (int region = 0; region < 7; region++) {
            x.setNumber(region, 1_000 + region);
        }
        x.setConfigs(openBehind(0x0000_0707_0707L));
        x.put(LAST_WORD, 11);
        x.put(LAST_WORD - 8, 12);
        x.put(MEMORY + 8, 13);
        x.rights(true, true);
        return x;
    }

    void unchanged(String call, PageWalker x, long[] before) {
        long[] now = state(x);
        for (int i = 0; i < now.length; i++) {
            same("part " + i + " of what is seen after " + call, now[i], before[i]);
        }
    }
}
