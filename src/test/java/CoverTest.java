/** "Terms" on what a region covers, for each A. */
public final class CoverTest {
    private static final long TOP = Due.TOP;
    private static final long ALL = Due.ALL_NUMBER;

    public static void main(String[] args) {
        Due due = new Due();
        due.sentence("It COVERS, for A 0, nothing", CoverTest::nothing);
        due.sentence("for 1, the addresses from four times the number of the region before", CoverTest::fromTheOneBefore);
        due.sentence("(from 0 on for region 0)", CoverTest::fromZero);
        due.sentence("to before four times its own", CoverTest::toBeforeItsOwn);
        due.sentence("to before four times its own -- an end that is not behind its start", CoverTest::endNotBehindStart);
        due.sentence("to before four times its own -- a number of 0, and of 54 ones", CoverTest::lowestAndHighestEnd);
        due.sentence("for 2, the four from four times its number on", CoverTest::four);
        due.sentence("for 2, the four from four times its number on -- a number of 0, and of 54 ones", CoverTest::lowestAndHighestFour);
        due.sentence("with k the ones that its number ends with", CoverTest::onesAtTheEnd);
        due.sentence("(54 at most)", CoverTest::fiftyFourOnes);
        due.sentence("2^(k + 3) addresses", CoverTest::powersFromZero);
        due.sentence("from four times its number, those k ones being 0 for that, on", CoverTest::powersFromElsewhere);
        due.end();
    }

    private static PageWalker one(int region, long before, long number, long config) {
        PageWalker x = new PageWalker();
        if (region > 0) {
            x.setNumber(region - 1, before);
        }
        x.setNumber(region, number);
        x.setConfigs(config << 8 * region);
        return x;
    }

    /**
     * Whether one byte is covered is seen twice: in mode 1 only a region that covers it lets it through, and in mode 3
     * only a locked region that covers it holds it back.
     */
    private static final class Region {
        private final Due due;
        private final String name;
        private final PageWalker opens;
        private final PageWalker shuts;

        Region(Due due, int region, long before, long number, int a) {
            this.due = due;
            name = "A " + a + " of region " + region + " with " + number + " behind " + before;
            opens = one(region, before, number, a << 3 | 0x01);
            shuts = one(region, before, number, a << 3 | 0x80);
        }

        void covers(long address, boolean is) {
            due.same(name + " opens " + address, opens.allows(address, PageWalker.LOAD, 1, 1), is);
            due.same(name + " shuts " + address, shuts.allows(address, PageWalker.LOAD, 3, 1), !is);
        }

        /** The first and the last address that are covered, and those beside them. */
        void coversJust(long first, long last) {
            covers(first, true);
            covers(last, true);
            covers(first + (last - first) / 2, true);
            if (first > 0) {
                covers(first - 1, false);
                covers(0, false);
            }
            if (last < TOP) {
                covers(last + 1, false);
                covers(TOP, false);
            }
        }

        void coversNothing() {
            for (long a : new long[] {0, 3, 4, 7, 8, 63, 64, 80, 127, 128, Due.MEMORY, TOP / 2, TOP - 7, TOP - 4, TOP - 3, TOP}) {
                covers(a, false);
            }
        }
    }

    private static void nothing(Due due) {
        for (int region = 0; region < 8; region++) {
            for (long number : new long[] {0, 1, 16, 20, ALL - 1, ALL}) {
                new Region(due, region, 0, number, 0).coversNothing();
            }
        }
    }

    private static void fromTheOneBefore(Due due) {
        for (int region = 1; region < 8; region++) {
            new Region(due, region, 8, 16, 1).coversJust(32, 63);
            new Region(due, region, 15, 16, 1).coversJust(60, 63);
            new Region(due, region, 0, 16, 1).coversJust(0, 63);
            new Region(due, region, 1, ALL, 1).coversJust(4, TOP - 4);
            new Region(due, region, ALL - 1, ALL, 1).coversJust(TOP - 7, TOP - 4);
        }
        // It is the number of the very region before, whatever that covers itself, and those before it have.
        for (long config : new long[] {0x00, 0x80, 0x90, 0x98}) {
            for (long other : new long[] {4, 14}) {
                PageWalker x = new PageWalker();
                x.setNumber(2, other);
                x.setNumber(3, 8);
                x.setNumber(4, 16);
                x.setNumber(5, other);
                x.setConfigs(0x09L << 32 | config << 24);
                due.same("behind a region with config " + config, x.allows(48, PageWalker.LOAD, 1, 4), true);
                due.same("before its start", x.allows(24, PageWalker.LOAD, 1, 4), false);
            }
        }
    }

    private static void fromZero(Due due) {
        new Region(due, 0, 0, 16, 1).coversJust(0, 63);
        new Region(due, 0, 0, 1, 1).coversJust(0, 3);
        // The numbers of the other regions, the last among them, do not matter.
        PageWalker x = new PageWalker();
        for (int region = 1; region < 8; region++) {
            x.setNumber(region, 8);
        }
        x.setNumber(0, 16);
        x.setConfigs(0x09);
        due.same("region 0 from 0 on", x.allows(0, PageWalker.LOAD, 1, 8), true);
    }

    private static void toBeforeItsOwn(Due due) {
        for (int region = 0; region < 8; region++) {
            for (long number : new long[] {1, 2, 3, 16, 1L << 29, 1L << 30, 1L << 53, ALL - 1}) {
                new Region(due, region, 0, number, 1).coversJust(0, 4 * number - 1);
            }
        }
    }

    private static void endNotBehindStart(Due due) {
        for (int region = 1; region < 8; region++) {
            for (long before : new long[] {1, 16, 20, 1L << 53, ALL}) {
                for (long own : new long[] {0, 1, before / 2, before - 1, before}) {
                    new Region(due, region, before, own, 1).coversNothing();
                    nothingAmongBytes(due, region, before, own);
                }
            }
        }
    }

    /** Neither bytes that reach over the start or the end are covered, nor those that lie between the two. */
    private static void nothingAmongBytes(Due due, int region, long before, long own) {
        PageWalker x = one(region, before, own, 0x88);
        for (long middle : new long[] {4 * before, 4 * own, 2 * (before + own)}) {
            for (long a = middle - 8; a <= middle; a++) {
                if (a >= 0 && a % 4096 <= 4088) {
                    due.same("eight bytes at " + a + " between " + own + " and " + before, x.allows(a, PageWalker.LOAD, 3, 8), true);
                }
            }
        }
    }

    private static void lowestAndHighestEnd(Due due) {
        for (int region = 0; region < 8; region++) {
            new Region(due, region, 0, 0, 1).coversNothing();
            new Region(due, region, 0, ALL, 1).coversJust(0, TOP - 4);
            if (region > 0) {
                new Region(due, region, ALL, 0, 1).coversNothing();
                new Region(due, region, ALL, ALL, 1).coversNothing();
            }
        }
    }

    private static void four(Due due) {
        for (int region = 0; region < 8; region++) {
            for (long number : new long[] {1, 2, 3, 5, 7, 8, 1L << 29, (1L << 30) - 1, 1L << 53, ALL - 1}) {
                new Region(due, region, 1, number, 2).coversJust(4 * number, 4 * number + 3);
            }
        }
    }

    private static void lowestAndHighestFour(Due due) {
        for (int region = 0; region < 8; region++) {
            new Region(due, region, 1, 0, 2).coversJust(0, 3);
            new Region(due, region, 1, ALL, 2).coversJust(TOP - 3, TOP);
        }
    }

    private static void onesAtTheEnd(Due due) {
        // Ones that stand before a zero are none of the k; the number of the region before is no part of it.
        new Region(due, 2, 3, 0b0, 3).coversJust(0, 7);
        new Region(due, 2, 3, 0b1, 3).coversJust(0, 15);
        new Region(due, 2, 3, 0b10, 3).coversJust(8, 15);
        new Region(due, 2, 3, 0b110, 3).coversJust(24, 31);
        new Region(due, 2, 3, 0b101, 3).coversJust(16, 31);
        new Region(due, 2, 3, 0b1101, 3).coversJust(48, 63);
        new Region(due, 2, 3, 0b1011, 3).coversJust(32, 63);
        new Region(due, 2, 3, 0b11100, 3).coversJust(112, 119);
        new Region(due, 2, 3, ALL - 1, 3).coversJust(TOP - 7, TOP);
    }

    private static void fiftyFourOnes(Due due) {
        for (int region = 0; region < 8; region++) {
            new Region(due, region, 1, ALL, 3).coversJust(0, TOP);
            // 53 ones, with a zero or without one before them: all addresses too, and half of them.
            new Region(due, region, 1, ALL >> 1, 3).coversJust(0, TOP);
            new Region(due, region, 1, ALL >> 2, 3).coversJust(0, TOP >> 1);
            new Region(due, region, 1, 1L << 53 | ALL >> 2, 3).coversJust((TOP >> 1) + 1, TOP);
        }
    }

    private static void powersFromZero(Due due) {
        for (int k = 0; k <= 53; k++) {
            new Region(due, k % 8, 1, (1L << k) - 1, 3).coversJust(0, (1L << (k + 3)) - 1);
        }
    }

    private static void powersFromElsewhere(Due due) {
        for (int k = 0; k < 53; k++) {
            long ones = (1L << k) - 1;
            long length = 1L << (k + 3);
            // A one before the zero that stands before the k ones, then all ones that there is room for.
            new Region(due, k % 8, 1, 1L << (k + 1) | ones, 3).coversJust(length, 2 * length - 1);
            new Region(due, k % 8, 1, ALL & ~(1L << k), 3).coversJust(TOP + 1 - length, TOP);
        }
    }
}
