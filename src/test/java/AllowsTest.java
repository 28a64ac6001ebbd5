/** Promise 12 (allows), and with it what regions cover and let through. */
public final class AllowsTest {
    private static final int FETCH = PageWalker.FETCH, LOAD = PageWalker.LOAD, STORE = PageWalker.STORE;
    private static final int[] MODES = {0, 1, 3};
    private static final long TOP = (1L << 56) - 1;

    public static void main(String[] args) {
        Due due = new Due();
        noRegion(due);
        everyConfig(due);
        fromTheRegionBefore(due);
        four(due);
        powers(due);
        partsOfAnAccess(due);
        firstRegionDecides(due);
        emptyRegions(due);
        wrongInputs(due);
        nothingChanges(due);
        due.end();
    }

    private static PageWalker one(int region, long number, long config) {
        PageWalker x = new PageWalker();
        x.setNumber(region, number);
        x.setConfigs(config << 8 * region);
        return x;
    }

    /** Whether a byte is covered is seen in mode 1, where only a region lets a byte through. */
    private static void covered(Due due, String what, PageWalker x, long address, boolean is) {
        due.same(what + " covers " + address, x.allows(address, LOAD, 1, 1), is);
    }

    private static void noRegion(Due due) {
        PageWalker x = new PageWalker();
        for (int access = 0; access < 3; access++) {
            for (int mode : MODES) {
                due.same("allows without a region, mode " + mode, x.allows(0, access, mode, 8), mode == 3);
                due.same("allows at the top, mode " + mode, x.allows(TOP, access, mode, 1), mode == 3);
            }
        }
    }

    private static void everyConfig(Due due) {
        for (int bits = 0; bits < 8; bits++) {
            for (int lock = 0; lock < 2; lock++) {
                PageWalker x = one(4, -1, 0x18 | bits | lock << 7);
                boolean r = (bits & 1) != 0;
                boolean w = (bits & 2) != 0 && r;
                boolean e = (bits & 4) != 0;
                for (int mode : MODES) {
                    boolean all = mode == 3 && lock == 0;
                    String what = "config " + bits + " lock " + lock + " mode " + mode;
                    due.same("load " + what, x.allows(64, LOAD, mode, 8), all || r);
                    due.same("store " + what, x.allows(64, STORE, mode, 8), all || w);
                    due.same("fetch " + what, x.allows(64, FETCH, mode, 8), all || e);
                }
            }
        }
    }

    private static void fromTheRegionBefore(Due due) {
        PageWalker first = one(0, 16, 0x09);
        covered(due, "A 1 of region 0", first, 0, true);
        covered(due, "A 1 of region 0", first, 63, true);
        covered(due, "A 1 of region 0", first, 64, false);
        for (int region = 1; region < 8; region++) {
            PageWalker x = one(region, 16, 0x09);
            x.setNumber(region - 1, 8);
            covered(due, "A 1 of region " + region, x, 31, false);
            covered(due, "A 1 of region " + region, x, 32, true);
            covered(due, "A 1 of region " + region, x, 63, true);
            covered(due, "A 1 of region " + region, x, 64, false);
        }
        PageWalker top = one(3, -1, 0x09);
        covered(due, "A 1 to the top", top, TOP - 4, true);
        covered(due, "A 1 to the top", top, TOP - 3, false);
    }

    private static void four(Due due) {
        PageWalker x = one(2, 5, 0x11);
        covered(due, "A 2", x, 19, false);
        covered(due, "A 2", x, 20, true);
        covered(due, "A 2", x, 23, true);
        covered(due, "A 2", x, 24, false);
        PageWalker top = one(7, -1, 0x11);
        covered(due, "A 2 at the top", top, TOP - 4, false);
        covered(due, "A 2 at the top", top, TOP - 3, true);
        covered(due, "A 2 at the top", top, TOP, true);
        covered(due, "A 2 of region 0 with 0", one(0, 0, 0x11), 0, true);
    }

    private static void powers(Due due) {
        for (int k = 0; k < 53; k++) {
            long start = 1L << (k + 3);
            // The number ends with k ones, a zero before them, and one more bit that tells where it starts.
            PageWalker x = one(k % 8, 1L << (k + 1) | (1L << k) - 1, 0x19);
            covered(due, "A 3 with k " + k, x, start - 1, false);
            covered(due, "A 3 with k " + k, x, start, true);
            covered(due, "A 3 with k " + k, x, 2 * start - 1, true);
            if (2 * start <= TOP) {
                covered(due, "A 3 with k " + k, x, 2 * start, false);
            }
        }
        for (int k = 0; k <= 54; k++) {
            PageWalker x = one(1, (1L << k) - 1, 0x19);
            long end = 1L << (k + 3);
            covered(due, "A 3 from 0 with k " + k, x, 0, true);
            covered(due, "A 3 from 0 with k " + k, x, Math.min(end - 1, TOP), true);
            if (end <= TOP) {
                covered(due, "A 3 from 0 with k " + k, x, end, false);
            }
        }
    }

    private static void partsOfAnAccess(Due due) {
        PageWalker x = one(0, 4, 0x17);
        due.same("all four bytes", x.allows(16, LOAD, 1, 4), true);
        due.same("two of the four", x.allows(18, LOAD, 1, 2), true);
        for (int mode : MODES) {
            due.same("the last two and two behind, mode " + mode, x.allows(18, LOAD, mode, 4), false);
            due.same("one before and the first, mode " + mode, x.allows(15, LOAD, mode, 2), false);
            due.same("four before and all four, mode " + mode, x.allows(12, LOAD, mode, 8), false);
            due.same("all four and four behind, mode " + mode, x.allows(16, LOAD, mode, 8), false);
            due.same("two on each side, mode " + mode, x.allows(14, LOAD, mode, 8), false);
            due.same("just before, mode " + mode, x.allows(8, LOAD, mode, 8), mode == 3);
            due.same("just behind, mode " + mode, x.allows(20, LOAD, mode, 8), mode == 3);
        }
    }

    private static void firstRegionDecides(Due due) {
        PageWalker x = one(1, 4, 0x10);
        x.setNumber(2, -1);
        x.setConfigs(0x1F_10_00L);
        due.same("the first refuses what a later one lets through", x.allows(16, LOAD, 0, 4), false);
        due.same("the first covers a part only", x.allows(16, LOAD, 0, 8), false);
        due.same("the later one behind it", x.allows(20, LOAD, 0, 4), true);
        x.setConfigs(0x18_17_00L);
        due.same("the first lets through what a later one refuses", x.allows(16, LOAD, 0, 4), true);
        due.same("the later one refuses behind it", x.allows(20, LOAD, 0, 4), false);
        x.setConfigs(0x98_10_00L);
        due.same("the first is not locked, the later one is", x.allows(16, STORE, 3, 4), true);
        due.same("the later one is locked", x.allows(20, STORE, 3, 4), false);
        PageWalker joined = one(0, 4, 0x11);
        joined.setNumber(1, 5);
        joined.setConfigs(0x1111);
        due.same("two regions that cover a half each", joined.allows(16, LOAD, 1, 8), false);
    }

    private static void emptyRegions(Due due) {
        for (long number = 0; number <= 5; number++) {
            PageWalker x = Due.open();
            x.setNumber(0, 5);
            x.setNumber(1, number);
            x.setConfigs(Due.openBehind(0x0800));
            for (long a = 0; a < 40; a++) {
                due.same("an empty region to " + number + " at " + a, x.allows(a, LOAD, 0, 8), true);
            }
        }
        PageWalker zero = Due.open();
        zero.setConfigs(Due.openBehind(0x08));
        due.same("region 0 from 0 to 0", zero.allows(0, LOAD, 0, 8), true);
        PageWalker off = Due.open();
        off.setNumber(0, 4);
        off.setConfigs(Due.openBehind(0x80));
        due.same("a locked region with A 0", off.allows(16, STORE, 0, 4), true);
    }

    private static void wrongInputs(Due due) {
        PageWalker x = Due.open();
        int[][] wrong = {
            {-1, 1, 1}, {3, 1, 1}, {Integer.MIN_VALUE, 1, 1}, {Integer.MAX_VALUE, 1, 1},
            {1, 2, 1}, {1, -1, 1}, {1, 4, 1}, {1, Integer.MAX_VALUE, 1},
            {1, 1, 0}, {1, 1, 3}, {1, 1, 5}, {1, 1, 6}, {1, 1, 7}, {1, 1, 9}, {1, 1, 16}, {1, 1, -1}, {1, 1, -8},
            {1, 1, Integer.MIN_VALUE}, {1, 1, Integer.MAX_VALUE},
        };
        for (int[] w : wrong) {
            due.refuses("allows(0, " + w[0] + ", " + w[1] + ", " + w[2] + ")", IllegalArgumentException.class,
                    () -> x.allows(0, w[0], w[1], w[2]));
        }
        long[] tooHigh = {1L << 56, TOP + 1, -1, Long.MIN_VALUE, Long.MAX_VALUE, 1L << 63 | 64, 1L << 62, 1L << 57};
        for (long a : tooHigh) {
            for (int mode : MODES) {
                due.refuses("allows(" + a + ") in " + mode, IllegalArgumentException.class, () -> x.allows(a, LOAD, mode, 1));
            }
        }
        for (int size = 1; size <= 8; size *= 2) {
            int bytes = size;
            due.same("the last " + size + " of a page", x.allows(8192 - size, LOAD, 1, size), true);
            if (size > 1) {
                due.refuses("over the end by one of " + size, IllegalArgumentException.class,
                        () -> x.allows(8192 - bytes + 1, LOAD, 1, bytes));
            }
        }
        due.same("the last byte of all", x.allows(TOP, LOAD, 1, 1), true);
    }

    private static void nothingChanges(Due due) {
        PageWalker x = Due.three(Due.V | Due.R | Due.W);
        x.allows(0, STORE, 1, 8);
        x.allows(Due.row(2, 0), STORE, 1, 8);
        due.same("an entry after allows", x.word(Due.row(2, 0)), Due.entry(3, Due.V | Due.R | Due.W));
        PageWalker y = new PageWalker();
        y.setTable(Due.SORT_THREE);
        y.setNumber(0, -1);
        y.setConfigs(0x19);
        due.same("allows takes no table", y.allows(64, LOAD, 0, 8), true);
    }
}
