/** Promises 7 (configs), 8 (setConfigs), 9 (number) and 10 (setNumber). */
public final class RegionsTest {
    private static final long NUMBER_BITS = (1L << 54) - 1;
    private static final int[] NO_REGIONS = {-1, 8, 9, -8, 256, Integer.MIN_VALUE, Integer.MAX_VALUE};

    public static void main(String[] args) {
        Due due = new Due();
        everyConfig(due);
        allConfigsAtOnce(due);
        lockedConfigs(due);
        numbers(due);
        lockedNumbers(due);
        wrongRegions(due);
        due.end();
    }

    /** What the document leaves of eight bits that are asked for. */
    private static long legal(long asked) {
        long config = asked & 0b1001_1111;
        return (config & 0b11) == 0b10 ? config - 0b10 : config;
    }

    private static void everyConfig(Due due) {
        for (int region = 0; region < 8; region++) {
            for (long asked = 0; asked < 256; asked++) {
                PageWalker x = new PageWalker();
                x.setConfigs(asked << 8 * region);
                due.same("configs() with " + asked + " for " + region, x.configs(), legal(asked) << 8 * region);
            }
        }
    }

    private static void allConfigsAtOnce(Due due) {
        PageWalker x = new PageWalker();
        x.setConfigs(0x0104_0507_0911_1F00L);
        due.same("configs()", x.configs(), 0x0104_0507_0911_1F00L);
        x.setConfigs(0x6262_6262_6262_6262L);
        due.same("configs() of W without R", x.configs(), 0);
        x.setConfigs(0x7F7F_7F7F_7F7F_7F7FL);
        due.same("configs() with bits 5 and 6", x.configs(), 0x1F1F_1F1F_1F1F_1F1FL);
        x.setConfigs(-1L);
        due.same("configs() of all ones", x.configs(), 0x9F9F_9F9F_9F9F_9F9FL);
        x.setConfigs(0);
        due.same("configs() when all are locked", x.configs(), 0x9F9F_9F9F_9F9F_9F9FL);
    }

    private static void lockedConfigs(Due due) {
        for (int locked = 0; locked < 8; locked++) {
            PageWalker x = new PageWalker();
            long byteOf = 0xFFL << 8 * locked;
            x.setConfigs(0x80L << 8 * locked);
            x.setConfigs(0x1D1D_1D1D_1D1D_1D1DL);
            due.same("configs() with " + locked + " locked", x.configs(),
                    0x1D1D_1D1D_1D1D_1D1DL & ~byteOf | 0x80L << 8 * locked);
            x.setConfigs(0);
            due.same("configs() 0 with " + locked + " locked", x.configs(), 0x80L << 8 * locked);
        }
    }

    private static void numbers(Due due) {
        PageWalker x = new PageWalker();
        for (int region = 0; region < 8; region++) {
            x.setNumber(region, region * 1_000_003L);
        }
        for (int region = 0; region < 8; region++) {
            due.same("number(" + region + ")", x.number(region), region * 1_000_003L);
        }
        long[] values = {-1, 1L << 54, 1L << 53, Long.MIN_VALUE, Long.MAX_VALUE, NUMBER_BITS, 0xFFC0_0000_0000_0001L};
        for (int region = 0; region < 8; region++) {
            for (long v : values) {
                x.setNumber(region, v);
                due.same("number(" + region + ") after " + v, x.number(region), v & NUMBER_BITS);
            }
        }
    }

    private static void lockedNumbers(Due due) {
        for (int locked = 0; locked < 8; locked++) {
            for (int kind = 0; kind < 4; kind++) {
                fixedBy(due, locked, 0x80 | kind << 3, true);
                fixedBy(due, locked, kind << 3, false);
            }
        }
    }

    private static void fixedBy(Due due, int region, long config, boolean isLocked) {
        PageWalker x = new PageWalker();
        for (int i = 0; i < 8; i++) {
            x.setNumber(i, 100 + i);
        }
        x.setConfigs(config << 8 * region);
        for (int i = 0; i < 8; i++) {
            x.setNumber(i, 200 + i);
        }
        boolean fixesBefore = isLocked && (config >> 3 & 3) == 1;
        for (int i = 0; i < 8; i++) {
            boolean stays = isLocked && i == region || fixesBefore && i == region - 1;
            due.same("number(" + i + ") with config " + config + " of " + region, x.number(i), (stays ? 100 : 200) + i);
        }
    }

    private static void wrongRegions(Due due) {
        PageWalker x = new PageWalker();
        x.setConfigs(-1L);
        for (int region : NO_REGIONS) {
            due.refuses("number(" + region + ")", IndexOutOfBoundsException.class, () -> x.number(region));
            due.refuses("setNumber(" + region + ")", IndexOutOfBoundsException.class, () -> x.setNumber(region, 1));
        }
        for (int region = 0; region < 8; region++) {
            due.same("number(" + region + ") after wrong calls", x.number(region), 0);
        }
    }
}
