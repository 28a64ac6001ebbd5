/** Promises 1 (a new object), 2 (word) and 3 (put). */
public final class MemoryTest {
    private static final long MEMORY = Due.MEMORY;
    private static final long LAST = MEMORY + 65_528;
    private static final long[] NO_WORDS = {
        MEMORY + 1, MEMORY + 2, MEMORY + 4, MEMORY + 7, LAST + 4, LAST + 7, LAST + 8, MEMORY - 8, MEMORY - 1,
        0, 8, -8, -MEMORY, Integer.MIN_VALUE, MEMORY << 1, MEMORY + (1L << 32), MEMORY | 1L << 56, MEMORY | 1L << 63,
        Long.MIN_VALUE, Long.MAX_VALUE, Long.MAX_VALUE - 7, 65_536,
    };

    public static void main(String[] args) {
        Due due = new Due();
        newObject(due);
        everyWordIsItsOwn(due);
        wrongAddresses(due);
        objectsAreApart(due);
        regionsDoNotGuardWords(due);
        due.end();
    }

    private static void newObject(Due due) {
        PageWalker x = new PageWalker();
        for (long a = MEMORY; a <= LAST; a += 8) {
            due.same("word(" + a + ") at first", x.word(a), 0);
        }
        due.same("table() at first", x.table(), 0);
        due.same("configs() at first", x.configs(), 0);
        for (int i = 0; i < 8; i++) {
            due.same("number(" + i + ") at first", x.number(i), 0);
        }
        due.same("find in mode 3 at first", x.find(12, PageWalker.LOAD, Due.MACHINE, 4), 12);
        due.same("find in mode 1 at first", x.find(12, PageWalker.LOAD, Due.SUPERVISOR, 4), -5);
        due.same("allows in mode 0 at first", x.allows(12, PageWalker.LOAD, Due.USER, 4), false);
        noRightAtFirst(due);
    }

    private static void noRightAtFirst(Due due) {
        PageWalker sum = Due.three(Due.V | Due.R | Due.U);
        due.same("load of a user's page without SUM", sum.find(0, PageWalker.LOAD, Due.SUPERVISOR, 1), -13);
        PageWalker mxr = Due.three(Due.V | Due.X);
        due.same("load of a page to fetch without MXR", mxr.find(0, PageWalker.LOAD, Due.SUPERVISOR, 1), -13);
    }

    private static void everyWordIsItsOwn(Due due) {
        PageWalker x = new PageWalker();
        for (long a = MEMORY; a <= LAST; a += 8) {
            x.put(a, a * 0x9E3779B97F4A7C15L);
        }
        for (long a = MEMORY; a <= LAST; a += 8) {
            due.same("word(" + a + ")", x.word(a), a * 0x9E3779B97F4A7C15L);
        }
        x.put(LAST, Long.MIN_VALUE);
        due.same("the last word", x.word(LAST), Long.MIN_VALUE);
        x.put(MEMORY, -1);
        due.same("the first word", x.word(MEMORY), -1);
        x.put(MEMORY, 0);
        due.same("the first word, put again", x.word(MEMORY), 0);
    }

    private static void wrongAddresses(Due due) {
        PageWalker x = new PageWalker();
        for (long a : NO_WORDS) {
            due.refuses("word(" + a + ")", IndexOutOfBoundsException.class, () -> x.word(a));
            due.refuses("put(" + a + ")", IndexOutOfBoundsException.class, () -> x.put(a, -1));
        }
        for (long a = MEMORY; a <= LAST; a += 8) {
            due.same("word(" + a + ") after wrong puts", x.word(a), 0);
        }
    }

    private static void objectsAreApart(Due due) {
        PageWalker x = new PageWalker();
        PageWalker y = new PageWalker();
        x.put(MEMORY, 1);
        x.setTable(Due.SORT_FOUR);
        x.setNumber(3, 3);
        x.setConfigs(0x1F);
        due.same("word of another object", y.word(MEMORY), 0);
        due.same("table of another object", y.table(), 0);
        due.same("number of another object", y.number(3), 0);
        due.same("configs of another object", y.configs(), 0);
    }

    private static void regionsDoNotGuardWords(Due due) {
        PageWalker x = new PageWalker();
        x.setNumber(0, -1);
        x.setConfigs(0x98);
        x.put(MEMORY, 5);
        due.same("a word in a locked region without rights", x.word(MEMORY), 5);
    }
}
