/** "Terms" on bytes that are let through, and promise 12 (allows). */
public final class LetThroughTest {
    private static final int FETCH = PageWalker.FETCH, LOAD = PageWalker.LOAD, STORE = PageWalker.STORE;
    private static final int[] SIZES = {1, 2, 4, 8};

    public static void main(String[] args) {
        Due due = new Due();
        due.sentence("by the first region that covers one of them", LetThroughTest::firstRegion);
        due.sentence("by the first region that covers one of them -- a part of them", LetThroughTest::firstRegionOfAPart);
        due.sentence("if that covers them all", LetThroughTest::allOfThem);
        due.sentence("if that covers them all -- not a few regions together", LetThroughTest::notTogether);
        due.sentence("and has L 0 while the mode is 3", LetThroughTest::unlockedInModeThree);
        due.sentence("or has R for a load, W for a store, X for a fetch", LetThroughTest::everyConfig);
        due.sentence("if none covers any, in mode 3 alone", LetThroughTest::noneCovers);
        due.sentence("Promise 12: Whether bytes at a physical address would be let through", LetThroughTest::wouldBe);
        due.end();
    }

    private static PageWalker one(int region, long number, long config) {
        PageWalker x = new PageWalker();
        x.setNumber(region, number);
        x.setConfigs(config << 8 * region);
        return x;
    }

    private static void firstRegion(Due due) {
        for (int first = 0; first < 8; first++) {
            for (int later = first + 1; later < 8; later++) {
                PageWalker x = new PageWalker();
                x.setNumber(first, 4);
                x.setNumber(later, -1);
                String pair = "regions " + first + " and " + later;
                x.setConfigs(0x10L << 8 * first | 0x1FL << 8 * later);
                due.same(pair + ": the first refuses", x.allows(16, LOAD, 0, 4), false);
                due.same(pair + ": the later lets through", x.allows(20, LOAD, 0, 4), true);
                x.setConfigs(0x17L << 8 * first | 0x18L << 8 * later);
                due.same(pair + ": the first lets through", x.allows(16, LOAD, 0, 4), true);
                due.same(pair + ": the later refuses", x.allows(20, LOAD, 0, 4), false);
                x.setConfigs(0x10L << 8 * first | 0x98L << 8 * later);
                due.same(pair + ": the first is not locked", x.allows(16, STORE, 3, 4), true);
                due.same(pair + ": the later is locked", x.allows(20, STORE, 3, 4), false);
            }
        }
    }

    private static void firstRegionOfAPart(Due due) {
        // The first region covers 16 .. 19 and lets all through, and so does the later one for every address.
        PageWalker x = one(3, 4, 0x17);
        x.setNumber(4, -1);
        x.setConfigs(0x1F_17_000000L);
        for (int mode : Due.MODES) {
            for (int size : SIZES) {
                for (long a = 4; a < 28; a++) {
                    long bytes = Math.max(0, Math.min(a + size, 20) - Math.max(a, 16));
                    due.same(bytes + " of " + size + " bytes at " + a, x.allows(a, LOAD, mode, size), bytes == 0 || bytes == size);
                }
            }
        }
    }

    private static void allOfThem(Due due) {
        for (int lock = 0; lock < 2; lock++) {
            // 16 .. 19, 16 .. 23 and 12 .. 19, with all rights.
            PageWalker four = one(2, 4, 0x17 | lock << 7);
            PageWalker eight = one(2, 4, 0x1F | lock << 7);
            PageWalker between = new PageWalker();
            between.setNumber(1, 3);
            between.setNumber(2, 5);
            between.setConfigs((0x0FL | lock << 7) << 16);
            for (long a = 6; a < 28; a++) {
                bytesOf(due, four, a, 16, 20);
                bytesOf(due, eight, a, 16, 24);
                bytesOf(due, between, a, 12, 20);
            }
        }
    }

    private static void bytesOf(Due due, PageWalker x, long a, long from, long to) {
        for (int size : SIZES) {
            long bytes = Math.max(0, Math.min(a + size, to) - Math.max(a, from));
            String what = bytes + " of " + size + " bytes at " + a;
            due.same(what, x.allows(a, STORE, 1, size), bytes == size);
            due.same(what + " in mode 3", x.allows(a, STORE, 3, size), bytes == size || bytes == 0);
        }
    }

    private static void notTogether(Due due) {
        PageWalker x = new PageWalker();
        x.setNumber(0, 4);
        x.setNumber(1, 5);
        x.setConfigs(0x1717);
        for (int mode : Due.MODES) {
            due.same("a half each in mode " + mode, x.allows(16, LOAD, mode, 8), false);
            due.same("the first half in mode " + mode, x.allows(16, LOAD, mode, 4), true);
            due.same("the second half in mode " + mode, x.allows(20, LOAD, mode, 4), true);
        }
        PageWalker split = new PageWalker();
        split.setNumber(0, 5);
        split.setNumber(1, 6);
        split.setConfigs(0x0F0F);
        due.same("two that meet", split.allows(16, LOAD, 3, 8), false);
        due.same("the second of two that meet", split.allows(20, LOAD, 1, 4), true);
    }

    private static void unlockedInModeThree(Due due) {
        for (int rights = 0; rights < 8; rights++) {
            PageWalker free = one(4, -1, 0x18 | rights);
            PageWalker locked = one(4, -1, 0x98 | rights);
            for (int access = FETCH; access <= STORE; access++) {
                due.same("L 0, rights " + rights + ", access " + access, free.allows(64, access, 3, 8), true);
                due.same("find with L 0", free.find(64, access, 3, 8), 64);
            }
            due.same("L 1, load by " + rights, locked.allows(64, LOAD, 3, 8), (rights & 1) != 0);
            due.same("L 1, store by " + rights, locked.allows(64, STORE, 3, 8), (rights & 3) == 3);
            due.same("L 1, fetch by " + rights, locked.allows(64, FETCH, 3, 8), (rights & 4) != 0);
        }
        PageWalker shut = one(4, -1, 0x18);
        due.same("L 0 in mode 0", shut.allows(64, LOAD, 0, 8), false);
        due.same("L 0 in mode 1", shut.allows(64, LOAD, 1, 8), false);
    }

    private static void everyConfig(Due due) {
        for (int rights = 0; rights < 8; rights++) {
            for (int lock = 0; lock < 2; lock++) {
                PageWalker x = one(4, -1, 0x18 | rights | lock << 7);
                boolean r = (rights & 1) != 0;
                for (int mode = 0; mode < 2; mode++) {
                    String what = "rights " + rights + " lock " + lock + " mode " + mode;
                    due.same("load by " + what, x.allows(64, LOAD, mode, 8), r);
                    due.same("store by " + what, x.allows(64, STORE, mode, 8), r && (rights & 2) != 0);
                    due.same("fetch by " + what, x.allows(64, FETCH, mode, 8), (rights & 4) != 0);
                }
            }
        }
    }

    private static void noneCovers(Due due) {
        PageWalker none = new PageWalker();
        PageWalker beside = one(5, 4, 0x97);
        for (int access = FETCH; access <= STORE; access++) {
            for (int mode : Due.MODES) {
                for (int size : SIZES) {
                    due.same("no region, mode " + mode, none.allows(0, access, mode, size), mode == 3);
                    due.same("no region at the top, mode " + mode, none.allows(Due.TOP + 1 - size, access, mode, size), mode == 3);
                    due.same("just before a region, mode " + mode, beside.allows(16 - size, access, mode, size), mode == 3);
                    due.same("just behind a region, mode " + mode, beside.allows(20, access, mode, size), mode == 3);
                }
            }
        }
    }

    private static void wouldBe(Due due) {
        // Neither a table nor rights nor memory matter, and nothing is marked.
        PageWalker x = Due.three(Due.V | Due.R | Due.W);
        long[] before = Due.state(x);
        for (int mode : Due.MODES) {
            for (int access = FETCH; access <= STORE; access++) {
                due.same("an address that no entry leads to", x.allows(0x5000, access, mode, 8), true);
                due.same("an address in a table", x.allows(Due.row(2, 0), access, mode, 8), true);
                due.same("an address behind memory", x.allows(Due.LAST_WORD + 8, access, mode, 8), true);
                due.same("an address with bit 55", x.allows(1L << 55, access, mode, 8), true);
            }
        }
        due.unchanged("allows", x, before);
    }
}
