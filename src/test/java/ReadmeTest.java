/** The example of README.md: its calls, and the answers that it tells. */
public final class ReadmeTest {
    public static void main(String[] args) {
        Due due = new Due();
        PageWalker x = new PageWalker();
        x.setNumber(7, -1L);
        x.setConfigs(0x1FL << 56);
        x.setTable(8L << 60 | 0x80000);
        x.put(0x80000000L, 0x80001L << 10 | 1);
        x.put(0x80001000L, 0x80002L << 10 | 1);
        x.put(0x80002000L, 0x80003L << 10 | 1 | 2 | 4);
        due.same("the store", x.find(5, PageWalker.STORE, 1, 1), 0x80003005L);
        due.same("the entry behind it", x.word(0x80002000L), 0x80003L << 10 | 1 | 2 | 4 | 64 | 128);
        due.same("the fetch", x.find(5, PageWalker.FETCH, 1, 1), -12);
        due.same("the load of a user", x.find(5, PageWalker.LOAD, 0, 1), -13);
        due.same("allows", x.allows(0x80003005L, PageWalker.LOAD, 0, 1), true);
        due.refuses("the word outside memory", IndexOutOfBoundsException.class, () -> x.word(0));
        due.end();
    }
}
