/** "What it is": an object answers as promised to its 512th call; what comes behind that is free, and not asked. */
public final class LifeTest {
    private static final int LOAD = PageWalker.LOAD, STORE = PageWalker.STORE;
    private static final int V = Due.V, R = Due.R, W = Due.W, A = Due.A, D = Due.D;
    private static final String WORDS = "An object is used for at most 512 calls after it has been made";

    public static void main(String[] args) {
        Due due = new Due();
        due.sentence(WORDS + " -- words", LifeTest::words);
        due.sentence(WORDS + " -- regions", LifeTest::regions);
        due.sentence(WORDS + " -- tables and rights", LifeTest::tables);
        due.sentence(WORDS + " -- refused calls", LifeTest::refusedCalls);
        due.sentence(WORDS + " -- marks", LifeTest::marks);
        due.sentence(WORDS + " -- many objects", LifeTest::manyObjects);
        due.end();
    }

    private static void words(Due due) {
        PageWalker x = new PageWalker();
        for (int i = 0; i < 256; i++) {
            x.put(Due.LAST_WORD - 8 * 31 * i, ~i);
        }
        for (int i = 0; i < 256; i++) {
            due.same("word " + i, x.word(Due.LAST_WORD - 8 * 31 * i), ~i);
        }
    }

    private static void regions(Due due) {
        PageWalker x = new PageWalker();
        for (int i = 0; i < 128; i++) {
            x.setNumber(i % 8, i * 97);
            due.same("number " + i, x.number(i % 8), i * 97);
            long configs = 0x0101_0101_0101_0101L * (i % 32) & 0x1D1D_1D1D_1D1D_1D1DL;
            x.setConfigs(configs);
            due.same("configs " + i, x.configs(), configs);
        }
    }

    private static void tables(Due due) {
        PageWalker x = new PageWalker();
        for (int i = 0; i < 128; i++) {
            long t = (i % 2 == 0 ? Due.SORT_THREE : Due.SORT_FOUR) | i;
            x.setTable(t);
            due.same("table " + i, x.table(), t);
            x.rights(i % 2 == 0, i % 3 == 0);
            x.fence();
        }
    }

    private static void refusedCalls(Due due) {
        PageWalker x = new PageWalker();
        for (int i = 0; i < 128; i++) {
            int region = 8 + i;
            due.refuses("word, time " + i, IndexOutOfBoundsException.class, () -> x.word(8L * region));
            due.refuses("number, time " + i, IndexOutOfBoundsException.class, () -> x.number(region));
            due.refuses("find, time " + i, IllegalArgumentException.class, () -> x.find(0, region, 1, 1));
            due.same("allows, time " + i, x.allows(region, LOAD, 3, 1), true);
        }
    }

    private static void marks(Due due) {
        // Six calls make the object; 168 times three calls are 504 more.
        PageWalker x = Due.three(V | R | W);
        for (int i = 0; i < 168; i++) {
            long at = Due.row(2, i);
            x.put(at, Due.entry(4, V | R | W));
            due.same("store " + i, x.find(4096L * i, STORE, 1, 8), Due.MEMORY + 4 * 4096);
            due.same("marks " + i, x.word(at), Due.entry(4, V | R | W | A | D));
        }
        due.same("the 511th call", x.allows(0, LOAD, 1, 1), true);
        due.same("the 512th call", x.find(0, LOAD, 1, 1), Due.MEMORY + 4 * 4096);
    }

    private static void manyObjects(Due due) {
        PageWalker[] objects = new PageWalker[64];
        for (int i = 0; i < objects.length; i++) {
            objects[i] = new PageWalker();
            objects[i].put(Due.MEMORY, i);
            objects[i].setTable(Due.SORT_FOUR | i);
            objects[i].setNumber(i % 8, i);
            objects[i].setConfigs((long) (i % 2) << 8 * (i % 8));
        }
        for (int i = 0; i < objects.length; i++) {
            due.same("the word of object " + i, objects[i].word(Due.MEMORY), i);
            due.same("the table of object " + i, objects[i].table(), Due.SORT_FOUR | i);
            due.same("the number of object " + i, objects[i].number(i % 8), i);
            due.same("the configs of object " + i, objects[i].configs(), (long) (i % 2) << 8 * (i % 8));
        }
    }
}
