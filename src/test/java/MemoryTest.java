/** "Terms" on memory, and promises 1 (a new object), 2 (word) and 3 (put). */
public final class MemoryTest {
    private static final long MEMORY = Due.MEMORY;
    private static final long LAST = Due.LAST_WORD;
    /** So many words are looked at in one object, that it stays within its 512 calls. */
    private static final int PART = 250;

    public static void main(String[] args) {
        Due due = new Due();
        due.sentence("MEMORY has 65,536 bytes, at the physical addresses 2^31 on", MemoryTest::ends);
        due.sentence("at first 0", MemoryTest::zeroAtFirst);
        due.sentence("its WORDS are longs of eight bytes", MemoryTest::wholeLongs);
        due.sentence("at addresses that 8 divides", MemoryTest::dividedByEight);
        due.sentence("Addresses are longs.", MemoryTest::longAddresses);
        due.sentence("Promise 1: All as at first.", MemoryTest::newObject);
        due.sentence("At first all is 0 and no right is given.", MemoryTest::noRightAtFirst);
        due.sentence("Promise 2: A word of memory.", MemoryTest::everyWordIsItsOwn);
        due.sentence("Promise 2: IndexOutOfBoundsException: there is none such.", MemoryTest::refusedWord);
        due.sentence("Promise 3: A word of memory becomes v.", MemoryTest::becomes);
        due.sentence("Promise 3: IndexOutOfBoundsException: there is none such.", MemoryTest::refusedPut);
        due.end();
    }

    private static void isWord(Due due, long address) {
        PageWalker x = new PageWalker();
        due.same("word(" + address + ")", x.word(address), 0);
        x.put(address, 77);
        due.same("word(" + address + ") after put", x.word(address), 77);
    }

    private static void isNoWord(Due due, long address) {
        PageWalker x = new PageWalker();
        due.refuses("word(" + address + ")", IndexOutOfBoundsException.class, () -> x.word(address));
        due.refuses("put(" + address + ", 1)", IndexOutOfBoundsException.class, () -> x.put(address, 1));
    }

    private static void ends(Due due) {
        isWord(due, 2_147_483_648L);
        isWord(due, 2_147_483_648L + 8);
        isWord(due, 2_147_483_648L + 65_536 - 8);
        isNoWord(due, 2_147_483_648L - 8);
        isNoWord(due, 2_147_483_648L - 1);
        isNoWord(due, 2_147_483_648L + 65_536);
        isNoWord(due, 2_147_483_648L + 65_536 + 8);
        isNoWord(due, 2_147_483_648L + 65_536 + 65_528);
        isNoWord(due, 0);
        isNoWord(due, 8);
        isNoWord(due, 65_528);
    }

    private static void zeroAtFirst(Due due) {
        for (long from = MEMORY; from <= LAST; from += 8 * PART) {
            PageWalker x = new PageWalker();
            for (long a = from; a <= LAST && a < from + 8 * PART; a += 8) {
                due.same("word(" + a + ") at first", x.word(a), 0);
            }
        }
    }

    private static void wholeLongs(Due due) {
        PageWalker x = new PageWalker();
        long[] places = {MEMORY, MEMORY + 32_768, LAST};
        for (int bit = 0; bit < 64; bit++) {
            long a = places[bit % 3];
            x.put(a, 1L << bit);
            due.same("word(" + a + ") with bit " + bit, x.word(a), 1L << bit);
        }
        for (long v : new long[] {-1, Long.MIN_VALUE, Long.MAX_VALUE, 0x0123_4567_89AB_CDEFL, 0}) {
            x.put(MEMORY + 8, v);
            due.same("word after put of " + v, x.word(MEMORY + 8), v);
        }
        x.put(MEMORY + 808, -1);
        due.same("the word before one of all ones", x.word(MEMORY + 800), 0);
        due.same("the word behind one of all ones", x.word(MEMORY + 816), 0);
    }

    private static void dividedByEight(Due due) {
        for (long a : new long[] {MEMORY, MEMORY + 4096, LAST}) {
            for (int rest = 1; rest < 8; rest++) {
                isNoWord(due, a + rest);
            }
        }
        for (int rest = 1; rest < 8; rest++) {
            isNoWord(due, MEMORY - rest);
        }
    }

    private static void longAddresses(Due due) {
        for (int bit = 16; bit < 64; bit++) {
            isNoWord(due, MEMORY ^ 1L << bit);
            isNoWord(due, LAST ^ 1L << bit);
        }
        isNoWord(due, Integer.MIN_VALUE);
        isNoWord(due, -MEMORY - 8);
        isNoWord(due, -8);
        isNoWord(due, -1);
        isNoWord(due, Long.MIN_VALUE);
        isNoWord(due, Long.MIN_VALUE + 8);
        isNoWord(due, Long.MAX_VALUE);
        isNoWord(due, Long.MAX_VALUE - 7);
    }

    private static void newObject(Due due) {
        Due.filled();
        PageWalker x = new PageWalker();
        long[] state = Due.state(x);
        for (int i = 0; i < state.length; i++) {
            due.same("part " + i + " of what is seen at first", state[i], 0);
        }
        due.same("find in mode 3 at first", x.find(12, PageWalker.LOAD, Due.MACHINE, 4), 12);
        due.same("find in mode 1 at first", x.find(12, PageWalker.LOAD, Due.SUPERVISOR, 4), -5);
        due.same("allows in mode 0 at first", x.allows(12, PageWalker.LOAD, Due.USER, 4), false);
        due.same("allows in mode 3 at first", x.allows(12, PageWalker.LOAD, Due.MACHINE, 4), true);
    }

    private static void noRightAtFirst(Due due) {
        PageWalker sum = Due.three(Due.V | Due.R | Due.W | Due.U);
        due.same("load of a user's page at first", sum.find(0, PageWalker.LOAD, Due.SUPERVISOR, 1), -13);
        due.same("store to a user's page at first", sum.find(0, PageWalker.STORE, Due.SUPERVISOR, 1), -15);
        PageWalker mxr = Due.three(Due.V | Due.X);
        due.same("load of a page to fetch at first", mxr.find(0, PageWalker.LOAD, Due.SUPERVISOR, 1), -13);
    }

    private static void everyWordIsItsOwn(Due due) {
        for (long from = MEMORY; from <= LAST; from += 8 * PART) {
            PageWalker x = new PageWalker();
            for (long a = from; a <= LAST && a < from + 8 * PART; a += 8) {
                x.put(a, a * 0x9E37_79B9_7F4A_7C15L);
            }
            for (long a = from; a <= LAST && a < from + 8 * PART; a += 8) {
                due.same("word(" + a + ")", x.word(a), a * 0x9E37_79B9_7F4A_7C15L);
            }
        }
        // Words far from one another, of which a part of the address is the same.
        PageWalker x = new PageWalker();
        for (int bit = 3; bit < 16; bit++) {
            x.put(MEMORY + (1L << bit), bit);
        }
        due.same("the first word", x.word(MEMORY), 0);
        for (int bit = 3; bit < 16; bit++) {
            due.same("the word at 2^" + bit, x.word(MEMORY + (1L << bit)), bit);
        }
    }

    private static void refusedWord(Due due) {
        PageWalker x = Due.filled();
        long[] before = Due.state(x);
        for (long a : new long[] {MEMORY - 8, MEMORY + 1, MEMORY + 7, LAST + 1, LAST + 8, 0, -8, MEMORY | 1L << 63}) {
            due.refuses("word(" + a + ")", IndexOutOfBoundsException.class, () -> x.word(a));
        }
        due.unchanged("refused calls of word", x, before);
    }

    private static void becomes(Due due) {
        PageWalker x = new PageWalker();
        x.put(MEMORY, 5);
        x.put(MEMORY, 6);
        due.same("a word that is put twice", x.word(MEMORY), 6);
        x.put(MEMORY, 0);
        due.same("a word that is put to 0 again", x.word(MEMORY), 0);
        x.setNumber(0, -1);
        x.setConfigs(0x98);
        x.put(LAST, 5);
        due.same("a word in a locked region without rights", x.word(LAST), 5);
        PageWalker other = new PageWalker();
        due.same("the word of another object", other.word(LAST), 0);
    }

    private static void refusedPut(Due due) {
        PageWalker x = Due.filled();
        long[] before = Due.state(x);
        long[] places = {
            MEMORY - 8, MEMORY - 1, MEMORY + 1, MEMORY + 4, MEMORY + 7, MEMORY + 9, LAST - 1, LAST + 1, LAST + 4,
            LAST + 7, LAST + 8, MEMORY + 65_537, 0, 8, 65_528, -8, MEMORY | 1L << 32, MEMORY | 1L << 63, Long.MIN_VALUE,
        };
        for (long a : places) {
            due.refuses("put(" + a + ", -1)", IndexOutOfBoundsException.class, () -> x.put(a, -1));
        }
        due.unchanged("refused calls of put", x, before);
    }
}
