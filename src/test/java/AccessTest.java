/** "Terms" on accesses, and the calls that promises 11 (find) and 12 (allows) refuse. */
public final class AccessTest {
    private static final int FETCH = PageWalker.FETCH, LOAD = PageWalker.LOAD, STORE = PageWalker.STORE;
    private static final int[] WRONG_ACCESSES = {-1, 3, 4, -2, 256, 1 << 16, Integer.MIN_VALUE, Integer.MAX_VALUE};
    private static final int[] WRONG_MODES = {-1, 2, 4, 5, 7, -3, 256, Integer.MIN_VALUE, Integer.MAX_VALUE};
    private static final int[] WRONG_SIZES = {
        0, 3, 5, 6, 7, 9, 10, 12, 16, 32, 64, 4096, -1, -2, -4, -8, Integer.MIN_VALUE, Integer.MAX_VALUE,
    };
    private static final int[] SIZES = {1, 2, 4, 8};

    public static void main(String[] args) {
        Due due = new Due();
        due.sentence("An ACCESS is 0 a FETCH, 1 a LOAD, or 2 a STORE", AccessTest::accesses);
        due.sentence("of 1, 2, 4 or 8 bytes", AccessTest::sizes);
        due.sentence("within one page (4,096 bytes at an address that 4,096 divides)", AccessTest::withinOnePage);
        due.sentence("in a MODE: 0 user, 1 supervisor, 3 machine", AccessTest::modes);
        due.sentence("Its FAULTS are the numbers 1, 5, 7", AccessTest::accessFaults);
        due.sentence("and 12, 13, 15 (PAGE FAULTS, likewise)", AccessTest::pageFaults);
        due.sentence("Promise 11: access is not 0 .. 2", AccessTest::findOfWrongAccess);
        due.sentence("Promise 11: mode not 0, 1 or 3", AccessTest::findInWrongMode);
        due.sentence("Promise 11: size not 1, 2, 4, 8", AccessTest::findOfWrongSize);
        due.sentence("Promise 11: or it is not within one page", AccessTest::findOverTheEnd);
        due.sentence("Promise 12: IllegalArgumentException as for find()", AccessTest::allowsAsFind);
        due.sentence("Promise 12: and when bits 56..63 of the address are not 0", AccessTest::allowsTooHigh);
        due.end();
    }

    private static void refusesFind(Due due, PageWalker x, long address, int access, int mode, int size) {
        due.refuses("find(" + address + ", " + access + ", " + mode + ", " + size + ")",
                IllegalArgumentException.class, () -> x.find(address, access, mode, size));
    }

    private static void refusesAllows(Due due, PageWalker x, long address, int access, int mode, int size) {
        due.refuses("allows(" + address + ", " + access + ", " + mode + ", " + size + ")",
                IllegalArgumentException.class, () -> x.allows(address, access, mode, size));
    }

    private static void accesses(Due due) {
        due.same("FETCH", PageWalker.FETCH, 0);
        due.same("LOAD", PageWalker.LOAD, 1);
        due.same("STORE", PageWalker.STORE, 2);
        // A region that lets one access through alone: 4 fetches, 1 loads, 3 loads and stores.
        long[] configs = {0x1C, 0x19, 0x1B};
        boolean[][] through = {{true, false, false}, {false, true, false}, {false, true, true}};
        for (int i = 0; i < 3; i++) {
            PageWalker x = new PageWalker();
            x.setNumber(0, -1);
            x.setConfigs(configs[i]);
            for (int access = 0; access < 3; access++) {
                due.same("allows " + access + " by " + configs[i], x.allows(0, access, 1, 1), through[i][access]);
                due.same("find " + access + " by " + configs[i], x.find(0, access, 1, 1),
                        through[i][access] ? 0 : Due.ACCESS_FAULTS[access]);
            }
        }
    }

    private static void sizes(Due due) {
        // Eight bytes that are open, from 64 on: so many bytes of them, and not one more.
        PageWalker x = new PageWalker();
        x.setNumber(0, 16);
        x.setConfigs(0x19);
        for (int size : SIZES) {
            due.same("the last " + size + " bytes", x.allows(72 - size, LOAD, 1, size), true);
            due.same("one byte more behind them", x.allows(73 - size, LOAD, 1, size), false);
            due.same("the first " + size + " bytes", x.allows(64, LOAD, 1, size), true);
            due.same("one byte more before them", x.allows(63, LOAD, 1, size), false);
            due.same("find of the last " + size, x.find(72 - size, LOAD, 0, size), 72 - size);
            due.same("find of one more", x.find(73 - size, LOAD, 0, size), -5);
        }
    }

    private static void withinOnePage(Due due) {
        PageWalker x = Due.open();
        for (int size : SIZES) {
            for (long page : new long[] {0, 4096, 8192, Due.MEMORY, Due.TOP - 4095}) {
                due.same("the last " + size + " of page " + page, x.find(page + 4096 - size, LOAD, 1, size), page + 4096 - size);
                due.same("the first " + size + " of page " + page, x.find(page, LOAD, 1, size), page);
                due.same("allows the last " + size + " of page " + page, x.allows(page + 4096 - size, LOAD, 1, size), true);
                for (int over = 1; over < size; over++) {
                    refusesFind(due, x, page + 4096 - size + over, LOAD, 1, size);
                    refusesAllows(due, x, page + 4096 - size + over, LOAD, 1, size);
                }
            }
        }
        due.same("an odd address", x.find(3, LOAD, 1, 8), 3);
        due.same("over the end of 2048 bytes", x.find(2044, LOAD, 1, 8), 2044);
    }

    private static void modes(Due due) {
        PageWalker x = Due.three(Due.V | Due.R | Due.U);
        due.same("user", x.find(8, LOAD, 0, 8), Due.MEMORY + 3 * 4096 + 8);
        due.same("supervisor, of a user's page", x.find(8, LOAD, 1, 8), -13);
        due.same("machine, without the table", x.find(8, LOAD, 3, 8), 8);
        for (int mode : WRONG_MODES) {
            refusesFind(due, x, 8, LOAD, mode, 8);
            refusesAllows(due, x, 8, LOAD, mode, 8);
        }
    }

    private static void accessFaults(Due due) {
        PageWalker shut = new PageWalker();
        PageWalker lost = Due.open();
        lost.setTable(Due.SORT_THREE);
        PageWalker locked = new PageWalker();
        locked.setNumber(0, -1);
        locked.setConfigs(0x98);
        long[] faults = {-1, -5, -7};
        for (int access = FETCH; access <= STORE; access++) {
            for (int mode : Due.MODES) {
                due.same("no region for " + access, shut.find(0, access, mode, 1), mode == 3 ? 0 : faults[access]);
                due.same("a locked region for " + access, locked.find(0, access, mode, 1), faults[access]);
                due.same("bit 56 for " + access, shut.find(1L << 56, access, mode, 1), faults[access]);
                due.same("no table for " + access, lost.find(0, access, mode, 1), mode == 3 ? 0 : faults[access]);
            }
        }
    }

    private static void pageFaults(Due due) {
        PageWalker x = Due.three(0);
        long[] faults = {-12, -13, -15};
        for (int access = FETCH; access <= STORE; access++) {
            for (int mode = 0; mode < 2; mode++) {
                due.same("no entry for " + access, x.find(0, access, mode, 1), faults[access]);
                due.same("bit 62 for " + access, x.find(1L << 62, access, mode, 1), faults[access]);
            }
        }
    }

    private static void findOfWrongAccess(Due due) {
        PageWalker x = Due.filled();
        long[] before = Due.state(x);
        for (int access : WRONG_ACCESSES) {
            for (int mode : Due.MODES) {
                refusesFind(due, x, 8, access, mode, 8);
            }
        }
        due.unchanged("find of a wrong access", x, before);
    }

    private static void findInWrongMode(Due due) {
        PageWalker x = Due.filled();
        long[] before = Due.state(x);
        for (int mode : WRONG_MODES) {
            for (int access = FETCH; access <= STORE; access++) {
                refusesFind(due, x, 8, access, mode, 8);
            }
        }
        due.unchanged("find in a wrong mode", x, before);
    }

    private static void findOfWrongSize(Due due) {
        PageWalker x = Due.filled();
        long[] before = Due.state(x);
        for (int size : WRONG_SIZES) {
            for (int mode : Due.MODES) {
                refusesFind(due, x, 8, STORE, mode, size);
            }
            refusesFind(due, x, 4095, STORE, 0, size);
            refusesFind(due, x, -1, STORE, 3, size);
        }
        due.unchanged("find of a wrong size", x, before);
    }

    private static void findOverTheEnd(Due due) {
        PageWalker x = Due.filled();
        long[] before = Due.state(x);
        // Pages of good addresses, of those that no mode finds, and the last one, where the bytes wrap around to 0.
        long[] pages = {0, 1, Due.MEMORY_PAGE, (1L << 44) - 1, 1L << 44, 1L << 50, Long.MIN_VALUE >> 12, Long.MAX_VALUE >> 12, -2, -1};
        for (long page : pages) {
            for (int size = 2; size <= 8; size *= 2) {
                for (int mode : Due.MODES) {
                    refusesFind(due, x, page * 4096 + 4096 - size + 1, STORE, mode, size);
                    refusesFind(due, x, page * 4096 + 4095, STORE, mode, size);
                }
            }
        }
        due.unchanged("find over the end of a page", x, before);
        due.same("the last byte of all, of one byte", x.find(-1, LOAD, 3, 1), -5);
        due.same("the last eight bytes of all", x.find(-8, LOAD, 3, 8), -5);
    }

    private static void allowsAsFind(Due due) {
        PageWalker x = Due.filled();
        long[] before = Due.state(x);
        for (int access : WRONG_ACCESSES) {
            refusesAllows(due, x, 8, access, 1, 8);
            refusesAllows(due, x, 8, access, 3, 8);
        }
        for (int mode : WRONG_MODES) {
            refusesAllows(due, x, 8, LOAD, mode, 8);
        }
        for (int size : WRONG_SIZES) {
            refusesAllows(due, x, 8, LOAD, 0, size);
            refusesAllows(due, x, 4095, LOAD, 3, size);
        }
        for (long page : new long[] {0, 1, Due.MEMORY_PAGE, (1L << 44) - 1}) {
            for (int size = 2; size <= 8; size *= 2) {
                for (int mode : Due.MODES) {
                    refusesAllows(due, x, page * 4096 + 4096 - size + 1, FETCH, mode, size);
                    refusesAllows(due, x, page * 4096 + 4095, STORE, mode, size);
                }
            }
        }
        due.unchanged("refused calls of allows", x, before);
    }

    private static void allowsTooHigh(Due due) {
        PageWalker x = Due.filled();
        long[] before = Due.state(x);
        for (int bit = 56; bit < 64; bit++) {
            for (int mode : Due.MODES) {
                refusesAllows(due, x, 1L << bit, LOAD, mode, 1);
                refusesAllows(due, x, 1L << bit | Due.MEMORY, STORE, mode, 8);
            }
        }
        for (long a : new long[] {-1, -8, -4096, Long.MAX_VALUE, Due.TOP + 1, ~Due.TOP}) {
            refusesAllows(due, x, a, FETCH, 3, 1);
        }
        due.unchanged("allows of an address that is too high", x, before);
        due.same("the highest byte", x.allows(Due.TOP, LOAD, 1, 1), true);
        due.same("the highest eight bytes", x.allows(Due.TOP - 7, LOAD, 1, 8), true);
        for (int bit = 0; bit < 56; bit++) {
            due.same("bit " + bit, x.allows(1L << bit, LOAD, 3, 1), true);
        }
    }
}
