/** "Terms" on configs, numbers and locks, and promises 7 (configs), 8 (setConfigs), 9 (number) and 10 (setNumber). */
public final class RegionsTest {
    private static final int[] NO_REGIONS = {-1, 8, 9, 15, 16, -8, 256, 1 << 16, Integer.MIN_VALUE, Integer.MAX_VALUE};
    private static final int L = 0x80;

    public static void main(String[] args) {
        Due due = new Due();
        due.sentence("REGIONS are 0 .. 7", RegionsTest::firstAndLast);
        due.sentence("Each has a CONFIG of eight bits: R 0, W 1, X 2, A 3..4, L 7", RegionsTest::everyConfig);
        due.sentence("(bits 5 and 6 are 0 always)", RegionsTest::bitsFiveAndSix);
        due.sentence("a NUMBER of 54 bits", RegionsTest::fiftyFourBits);
        due.sentence("all are 0 at first", RegionsTest::zeroAtFirst);
        due.sentence("A region with L 1 is LOCKED: its config and number stay what they are -- the config", RegionsTest::lockedConfig);
        due.sentence("A region with L 1 is LOCKED: its config and number stay what they are -- the number", RegionsTest::lockedNumber);
        due.sentence("so does the number of the one before it, if its A is 1", RegionsTest::numberBefore);
        due.sentence("A config that would have W 1 and R 0 gets W 0.", RegionsTest::storeWithoutLoad);
        due.sentence("Promise 7: that of region i in bits 8 i .. 8 i + 7", RegionsTest::packed);
        due.sentence("Promise 8: Each region that is not locked gets its eight bits of c as its config.", RegionsTest::notLocked);
        due.sentence("Promise 9: The number of a region.", RegionsTest::eachItsNumber);
        due.sentence("Promise 9: IndexOutOfBoundsException: there is none such.", RegionsTest::refusedNumber);
        due.sentence("Promise 10: becomes the lowest 54 bits of v", RegionsTest::lowestBits);
        due.sentence("Promise 10: unless it stays", RegionsTest::unlessItStays);
        due.sentence("Promise 10: IndexOutOfBoundsException: there is none such.", RegionsTest::refusedSetNumber);
        due.end();
    }

    private static long at(int region, long config) {
        return config << 8 * region;
    }

    private static PageWalker numbered() {
        PageWalker x = new PageWalker();
        for (int i = 0; i < 8; i++) {
            x.setNumber(i, 100 + i);
        }
        return x;
    }

    private static void firstAndLast(Due due) {
        PageWalker x = new PageWalker();
        for (int region : new int[] {0, 7}) {
            x.setNumber(region, 5 + region);
            due.same("number(" + region + ")", x.number(region), 5 + region);
        }
        x.setConfigs(0x1D00_0000_0000_0019L);
        due.same("configs of the first and the last", x.configs(), 0x1D00_0000_0000_0019L);
        for (int region : new int[] {-1, 8}) {
            due.refuses("number(" + region + ")", IndexOutOfBoundsException.class, () -> x.number(region));
            due.refuses("setNumber(" + region + ")", IndexOutOfBoundsException.class, () -> x.setNumber(region, 1));
        }
    }

    /** What the document leaves of eight bits that are asked for. */
    private static long legal(long asked) {
        long config = asked & 0b1001_1111;
        return (config & 0b11) == 0b10 ? config - 0b10 : config;
    }

    private static void everyConfig(Due due) {
        for (int region = 0; region < 8; region++) {
            for (long asked = 0; asked < 256; asked++) {
                PageWalker x = new PageWalker();
                x.setConfigs(at(region, asked));
                due.same("configs() with " + asked + " for " + region, x.configs(), at(region, legal(asked)));
            }
        }
    }

    private static void bitsFiveAndSix(Due due) {
        for (int region = 0; region < 8; region++) {
            for (long bits : new long[] {0x20, 0x40, 0x60}) {
                PageWalker x = new PageWalker();
                x.setConfigs(at(region, bits));
                due.same("configs() of " + bits + " alone", x.configs(), 0);
                x.setConfigs(at(region, 0x1F | bits));
                due.same("configs() of " + bits + " with all but L", x.configs(), at(region, 0x1F));
                x.setConfigs(at(region, 0x9F | bits));
                due.same("configs() of " + bits + " with all", x.configs(), at(region, 0x9F));
                x.setConfigs(at(region, bits));
                due.same("configs() of " + bits + " when locked", x.configs(), at(region, 0x9F));
            }
        }
    }

    private static void fiftyFourBits(Due due) {
        PageWalker x = new PageWalker();
        for (int region = 0; region < 8; region++) {
            x.setNumber(region, (1L << 54) - 1);
            due.same("54 ones for " + region, x.number(region), 18_014_398_509_481_983L);
            x.setNumber(region, 1L << 54);
            due.same("2^54 for " + region, x.number(region), 0);
            x.setNumber(region, 1L << 53);
            due.same("2^53 for " + region, x.number(region), 1L << 53);
            x.setNumber(region, -1);
            due.same("64 ones for " + region, x.number(region), 18_014_398_509_481_983L);
        }
    }

    private static void zeroAtFirst(Due due) {
        PageWalker x = new PageWalker();
        due.same("configs() at first", x.configs(), 0);
        for (int region = 0; region < 8; region++) {
            due.same("number(" + region + ") at first", x.number(region), 0);
        }
    }

    private static void lockedConfig(Due due) {
        for (int region = 0; region < 8; region++) {
            for (long rest = 0; rest < 32; rest++) {
                PageWalker x = new PageWalker();
                long locked = at(region, legal(L | rest));
                x.setConfigs(at(region, L | rest));
                due.same("config " + rest + " with L of " + region, x.configs(), locked);
                x.setConfigs(0);
                due.same("then set to 0", x.configs(), locked);
                x.setConfigs(at(region, L | rest ^ 0x1D));
                due.same("then set to another with L", x.configs(), locked);
                x.setConfigs(at(region, 0x1F));
                due.same("then set to all but L", x.configs(), locked);
            }
        }
    }

    private static void lockedNumber(Due due) {
        for (int region = 0; region < 8; region++) {
            for (int kind = 0; kind < 4; kind++) {
                PageWalker x = numbered();
                x.setConfigs(at(region, L | kind << 3));
                for (long v : new long[] {0, 1, -1, 200}) {
                    x.setNumber(region, v);
                    due.same("number of " + region + " locked with A " + kind, x.number(region), 100 + region);
                }
                x = numbered();
                x.setConfigs(at(region, kind << 3 | 7));
                x.setNumber(region, 200);
                due.same("number of " + region + " not locked with A " + kind, x.number(region), 200);
            }
        }
    }

    private static void numberBefore(Due due) {
        for (int region = 0; region < 8; region++) {
            for (int kind = 0; kind < 4; kind++) {
                numbersBeside(due, region, L | kind << 3, kind == 1);
                numbersBeside(due, region, L | kind << 3 | 7, kind == 1);
                numbersBeside(due, region, kind << 3 | 7, false);
            }
        }
        // The A of the region before does not matter, and its config may change.
        PageWalker x = numbered();
        x.setConfigs(at(4, L | 0x18) | at(3, 0x08));
        x.setNumber(3, 203);
        due.same("before a locked region with A 3, own A 1", x.number(3), 203);
        x = numbered();
        x.setConfigs(at(4, L | 0x08));
        x.setConfigs(at(3, 0x19));
        due.same("the config before stays free", x.configs(), at(4, L | 0x08) | at(3, 0x19));
        x.setNumber(3, 203);
        due.same("before a locked region with A 1, own A 3", x.number(3), 103);
    }

    /** Of all regions but the locked one itself, the one before it alone may stay. */
    private static void numbersBeside(Due due, int region, long config, boolean keepsBefore) {
        PageWalker x = numbered();
        x.setConfigs(at(region, config));
        for (int i = 0; i < 8; i++) {
            if (i == region) {
                continue;
            }
            x.setNumber(i, 200 + i);
            boolean stays = keepsBefore && i == region - 1;
            due.same("number(" + i + ") with config " + config + " of " + region, x.number(i), (stays ? 100 : 200) + i);
        }
    }

    private static void storeWithoutLoad(Due due) {
        for (int region = 0; region < 8; region++) {
            for (int rest = 0; rest < 8; rest++) {
                // X and A as the rest tells; what has R keeps its W.
                long bits = rest << 2;
                PageWalker x = new PageWalker();
                x.setConfigs(at(region, bits | 0b11));
                due.same("R and W for " + region, x.configs(), at(region, bits | 0b11));
                x.setConfigs(at(region, bits | 0b10));
                due.same("W without R for " + region, x.configs(), at(region, bits));
                x.setConfigs(at(region, bits | 0b01));
                due.same("R without W for " + region, x.configs(), at(region, bits | 0b01));
                x.setConfigs(at(region, bits | 0b10 | L));
                due.same("W without R with L for " + region, x.configs(), at(region, bits | L));
            }
        }
        PageWalker x = new PageWalker();
        x.setConfigs(0x0302_0302_0302_0302L);
        due.same("every other region", x.configs(), 0x0300_0300_0300_0300L);
    }

    private static void packed(Due due) {
        PageWalker x = new PageWalker();
        x.setConfigs(0x8104_0507_0911_1F98L);
        due.same("configs()", x.configs(), 0x8104_0507_0911_1F98L);
        for (int region = 0; region < 8; region++) {
            PageWalker y = new PageWalker();
            y.setNumber(region, 16);
            y.setConfigs(at(region, 0x11));
            due.same("the config of " + region + " is its own", y.allows(64, PageWalker.LOAD, 1, 4), true);
            y.setConfigs(~at(region, 0xFF) & 0x0101_0101_0101_0101L);
            due.same("the config of " + region + " is not another's", y.allows(64, PageWalker.LOAD, 1, 4), false);
        }
    }

    private static void notLocked(Due due) {
        for (int mask = 0; mask < 256; mask++) {
            PageWalker x = new PageWalker();
            long locked = 0;
            long expected = 0x1D1D_1D1D_1D1D_1D1DL;
            for (int region = 0; region < 8; region++) {
                if ((mask >> region & 1) != 0) {
                    locked |= at(region, L);
                    expected = expected & ~at(region, 0xFF) | at(region, L);
                }
            }
            x.setConfigs(locked);
            x.setConfigs(0x1D1D_1D1D_1D1D_1D1DL);
            due.same("configs() with the regions of " + mask + " locked", x.configs(), expected);
            x.setConfigs(0);
            due.same("configs() set to 0 with those locked", x.configs(), locked);
            x.setConfigs(-1);
            due.same("configs() of all ones with those locked", x.configs(), expected | 0x9F9F_9F9F_9F9F_9F9FL & ~wide(locked));
            x.setConfigs(0);
            due.same("configs() when all are locked", x.configs(), locked | 0x9F9F_9F9F_9F9F_9F9FL & ~wide(locked));
        }
    }

    /** All eight bits of each region whose L is among the bits. */
    private static long wide(long locks) {
        return (locks >>> 7) * 0xFF;
    }

    private static void eachItsNumber(Due due) {
        PageWalker x = new PageWalker();
        for (int region = 0; region < 8; region++) {
            x.setNumber(region, region * 1_000_003L + 1);
        }
        for (int region = 7; region >= 0; region--) {
            due.same("number(" + region + ")", x.number(region), region * 1_000_003L + 1);
        }
        x.setConfigs(-1);
        for (int region = 0; region < 8; region++) {
            due.same("number(" + region + ") when locked", x.number(region), region * 1_000_003L + 1);
        }
    }

    private static void refusedNumber(Due due) {
        PageWalker x = Due.filled();
        long[] before = Due.state(x);
        for (int region : NO_REGIONS) {
            due.refuses("number(" + region + ")", IndexOutOfBoundsException.class, () -> x.number(region));
        }
        due.unchanged("refused calls of number", x, before);
    }

    private static void lowestBits(Due due) {
        PageWalker x = new PageWalker();
        for (int bit = 0; bit < 64; bit++) {
            x.setNumber(bit % 8, 1L << bit);
            due.same("number after 2^" + bit, x.number(bit % 8), bit < 54 ? 1L << bit : 0);
        }
        x.setNumber(3, 0xFFC0_0000_0000_0001L);
        due.same("ones above 54 bits", x.number(3), 1);
        x.setNumber(3, Long.MIN_VALUE);
        due.same("the lowest long", x.number(3), 0);
        x.setNumber(3, Long.MAX_VALUE);
        due.same("the highest long", x.number(3), Due.ALL_NUMBER);
    }

    private static void unlessItStays(Due due) {
        // Region 2 is locked; region 5 is locked with A 1, so that 4 stays too; the rest is free.
        PageWalker x = numbered();
        x.setConfigs(at(2, L) | at(5, L | 0x08));
        for (int region = 0; region < 8; region++) {
            x.setNumber(region, -1);
        }
        boolean[] stays = {false, false, true, false, true, true, false, false};
        for (int region = 0; region < 8; region++) {
            due.same("number(" + region + ")", x.number(region), stays[region] ? 100 + region : Due.ALL_NUMBER);
        }
        PageWalker all = numbered();
        all.setConfigs(-1);
        for (int region = 0; region < 8; region++) {
            all.setNumber(region, 0);
            due.same("number(" + region + ") when all are locked", all.number(region), 100 + region);
        }
    }

    private static void refusedSetNumber(Due due) {
        for (long configs : new long[] {0, -1, 0x8888_8888_8888_8888L}) {
            PageWalker x = Due.filled();
            x.setConfigs(configs);
            long[] before = Due.state(x);
            for (int region : NO_REGIONS) {
                due.refuses("setNumber(" + region + ")", IndexOutOfBoundsException.class, () -> x.setNumber(region, 7));
            }
            due.unchanged("refused calls of setNumber", x, before);
        }
    }
}
