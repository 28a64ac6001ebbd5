import java.math.BigInteger;
import java.util.HashMap;
import java.util.Map;
import java.util.Random;

/** All promises: runs of all the calls that an object has, each answer against a slow model written after the document's words. */
public final class ModelTest {
    private static final int RUNS = 6_000;
    private static final int CALLS = 512;
    private static final int STORE = PageWalker.STORE;
    /** As many calls as one step makes at most. */
    private static final int STEP = 2;

    public static void main(String[] args) {
        Due due = new Due();
        int[] seen = new int[32];
        for (int run = 0; run < RUNS; run++) {
            new Run(due, run, seen).all();
        }
        // A run that never comes to a kind of answer proves nothing of it.
        for (int fault : new int[] {0, 1, 5, 7, 12, 13, 15, 16, 17}) {
            due.same("answers of kind " + fault + " are seen often", seen[fault] > 1_000, true);
        }
        due.end();
    }

    /** The state and the rules, with addresses and numbers of regions as whole numbers without a bound. */
    private static final class Model {
        final Map<Long, Long> memory = new HashMap<>();
        final int[] configs = new int[8];
        final long[] numbers = new long[8];
        long table = 0;
        boolean sum = false;
        boolean mxr = false;

        static long bits(long number, int from, int to) {
            long answer = 0;
            for (int bit = to; bit >= from; bit--) {
                answer = answer * 2 + (number >>> bit & 1);
            }
            return answer;
        }

        static boolean bit(long number, int at) {
            return bits(number, at, at) == 1;
        }

        static boolean isWord(long address) {
            return address >= 2147483648L && address < 2147483648L + 65536 && address % 8 == 0;
        }

        long word(long address) {
            return memory.getOrDefault(address, 0L);
        }

        void setConfigs(long c) {
            for (int i = 0; i < 8; i++) {
                if (configs[i] / 128 == 1) {
                    continue;
                }
                int asked = (int) bits(c, 8 * i, 8 * i + 7);
                int r = asked & 1;
                int w = r == 0 ? 0 : asked & 2;
                configs[i] = r + w + (asked & 4) + (asked & 24) + (asked & 128);
            }
        }

        void setNumber(int i, long v) {
            boolean locked = bit(configs[i], 7);
            boolean lockedBehind = i < 7 && bit(configs[i + 1], 7) && bits(configs[i + 1], 3, 4) == 1;
            if (!locked && !lockedBehind) {
                numbers[i] = bits(v, 0, 53);
            }
        }

        boolean covers(int i, BigInteger address) {
            BigInteger four = BigInteger.valueOf(4);
            BigInteger own = BigInteger.valueOf(numbers[i]);
            switch ((int) bits(configs[i], 3, 4)) {
                case 0:
                    return false;
                case 1:
                    BigInteger before = i == 0 ? BigInteger.ZERO : BigInteger.valueOf(numbers[i - 1]);
                    return four.multiply(before).compareTo(address) <= 0 && address.compareTo(four.multiply(own)) < 0;
                case 2:
                    return address.divide(four).equals(own);
                default:
                    int k = 0;
                    while (own.testBit(k)) {
                        k++;
                    }
                    BigInteger start = four.multiply(own.shiftRight(k).shiftLeft(k));
                    BigInteger end = start.add(BigInteger.TWO.pow(k + 3));
                    return start.compareTo(address) <= 0 && address.compareTo(end) < 0;
            }
        }

        boolean letThrough(long address, int access, int mode, int size) {
            for (int i = 0; i < 8; i++) {
                int covered = 0;
                for (int b = 0; b < size; b++) {
                    covered += covers(i, BigInteger.valueOf(address + b)) ? 1 : 0;
                }
                if (covered > 0) {
                    boolean unlocked = !bit(configs[i], 7) && mode == 3;
                    int wanted = access == 1 ? 0 : access == 2 ? 1 : 2;
                    return covered == size && (unlocked || bit(configs[i], wanted));
                }
            }
            return mode == 3;
        }

        long find(long a, int access, int mode, int size) {
            long accessFault = new long[] {-1, -5, -7}[access];
            long pageFault = new long[] {-12, -13, -15}[access];
            long sort = bits(table, 60, 63);
            long physical;
            if (mode == 3 || sort == 0) {
                if (bits(a, 56, 63) != 0) {
                    return accessFault;
                }
                physical = a;
            } else {
                int n = sort == 8 ? 3 : 4;
                for (int bit = 9 * n + 11; bit < 64; bit++) {
                    if (bit(a, bit) != bit(a, 63)) {
                        return pageFault;
                    }
                }
                physical = walk(a, access, mode, n, accessFault, pageFault);
                if (physical < 0) {
                    return physical;
                }
            }
            return letThrough(physical, access, mode, size) ? physical : accessFault;
        }

        private long walk(long a, int access, int mode, int n, long accessFault, long pageFault) {
            long page = bits(table, 0, 43);
            for (int i = n - 1; i >= 0; i--) {
                long at = 4096 * page + 8 * bits(a, 12 + 9 * i, 20 + 9 * i);
                if (!isWord(at) || !letThrough(at, 1, 1, 8)) {
                    return accessFault;
                }
                long e = word(at);
                boolean v = bit(e, 0), r = bit(e, 1), w = bit(e, 2), x = bit(e, 3), u = bit(e, 4);
                boolean marked = bit(e, 6), changed = bit(e, 7);
                if (!v || w && !r || bits(e, 54, 63) != 0) {
                    return pageFault;
                }
                page = bits(e, 10, 53);
                if (!r && !x) {
                    if (i == 0 || u || marked || changed) {
                        return pageFault;
                    }
                    continue;
                }
                if (i > 0 && bits(page, 0, 9 * i - 1) != 0 || mode == 0 && !u
                        || mode == 1 && u && !(sum && (access == 1 || access == 2))
                        || access == 0 && !x || access == 1 && !r && !(mxr && x) || access == 2 && !w) {
                    return pageFault;
                }
                if (!marked || access == 2 && !changed) {
                    if (!letThrough(at, 2, 1, 8)) {
                        return accessFault;
                    }
                    memory.put(at, e + (marked ? 0 : 64) + (access == 2 && !changed ? 128 : 0));
                }
                return 4096 * page + bits(a, 0, 11 + 9 * i);
            }
            throw new AssertionError("the lowest depth always answers");
        }
    }

    /** One run of calls on one object, with values that lie close to those that matter. */
    private static final class Run {
        private final Due due;
        private final int run;
        private final int[] seen;
        private final Random random;
        private final PageWalker x = new PageWalker();
        private final Model model = new Model();
        private final boolean locks;
        private int calls = 0;

        Run(Due due, int run, int[] seen) {
            this.due = due;
            this.run = run;
            this.seen = seen;
            random = new Random(run);
            locks = run % 3 == 0;
        }

        void all() {
            if (run % 4 != 0) {
                prepare();
            }
            // Each word that the model holds is looked at in the end, by one call of those that the object has left.
            while (calls + STEP + model.memory.size() + 1 <= CALLS) {
                step(random.nextInt(104));
            }
            for (long a : model.memory.keySet()) {
                word(a);
            }
            due.same("calls of run " + run + " within bounds", calls <= CALLS, true);
        }

        private void prepare() {
            number(7, -1);
            configs(0x1FL << 56);
            table((run % 2 == 0 ? Due.SORT_THREE : Due.SORT_FOUR) | Due.MEMORY_PAGE);
            for (int page = 0; page < 4; page++) {
                for (int row = 0; row < 3; row++) {
                    put(Due.row(page, row), entry());
                }
            }
        }

        private void step(int kind) {
            if (kind < 45) {
                find();
            } else if (kind < 60) {
                put(wordAddress(), random.nextInt(10) == 0 ? random.nextLong() : entry());
            } else if (kind < 70) {
                word(wordAddress());
            } else if (kind < 74) {
                table(sort() << 60 | (random.nextInt(3) == 0 ? random.nextLong() & 0xFFFFL << 44 : 0) | page());
            } else if (kind < 78) {
                rights(random.nextBoolean(), random.nextBoolean());
            } else if (kind < 82) {
                configs(someConfigs());
            } else if (kind < 88) {
                number(random.nextInt(8), someNumber());
            } else if (kind < 99) {
                allows();
            } else if (kind < 100) {
                calls++;
                x.fence();
            } else {
                wrongCall();
            }
        }

        private void word(long a) {
            calls++;
            due.same("run " + run + " word(" + a + ")", x.word(a), model.word(a));
        }

        private void rights(boolean sum, boolean mxr) {
            calls++;
            x.rights(sum, mxr);
            model.sum = sum;
            model.mxr = mxr;
        }

        /** One call that is refused, and must leave all as it is. */
        private void wrongCall() {
            calls++;
            long any = random.nextLong();
            long noWord = Model.isWord(any) ? any + 1 : any;
            int noRegion = random.nextBoolean() ? 8 + random.nextInt(1_000) : -1 - random.nextInt(1_000);
            long noTable = any >>> 63 == 0 ? any | 1L << 60 : any | 1L << 61;
            int noSize = random.nextInt(5) * 2 + 3;
            switch (random.nextInt(7)) {
                case 0:
                    due.refuses("run " + run + " word(" + noWord + ")", IndexOutOfBoundsException.class, () -> x.word(noWord));
                    break;
                case 1:
                    due.refuses("run " + run + " put(" + noWord + ")", IndexOutOfBoundsException.class, () -> x.put(noWord, any));
                    break;
                case 2:
                    due.refuses("run " + run + " number(" + noRegion + ")", IndexOutOfBoundsException.class, () -> x.number(noRegion));
                    break;
                case 3:
                    due.refuses("run " + run + " setNumber(" + noRegion + ")", IndexOutOfBoundsException.class, () -> x.setNumber(noRegion, any));
                    break;
                case 4:
                    due.refuses("run " + run + " setTable(" + noTable + ")", IllegalArgumentException.class, () -> x.setTable(noTable));
                    break;
                case 5:
                    due.refuses("run " + run + " find of " + noSize, IllegalArgumentException.class, () -> x.find(0, STORE, 1, noSize));
                    break;
                default:
                    due.refuses("run " + run + " allows in mode 2", IllegalArgumentException.class, () -> x.allows(0, STORE, 2, 1));
            }
        }

        private long sort() {
            int kind = random.nextInt(7);
            return kind == 0 ? 0 : kind < 4 ? 8 : 9;
        }

        private long wordAddress() {
            return Due.row(random.nextInt(random.nextInt(4) == 0 ? 16 : 4), random.nextInt(4) == 0 ? random.nextInt(512) : random.nextInt(3));
        }

        private long page() {
            int kind = random.nextInt(24);
            if (kind == 0) {
                return random.nextLong() & (1L << 44) - 1;
            }
            if (kind == 1) {
                return Due.MEMORY_PAGE + random.nextInt(20) - 2;
            }
            return kind < 4 ? 1L << random.nextInt(44) : Due.MEMORY_PAGE + random.nextInt(4);
        }

        private long entry() {
            int kind = random.nextInt(16);
            long page = page();
            if (kind < 6) {
                return page << 10 | Due.V;
            }
            if (kind == 6) {
                return page << 10 | Due.V | 1L << random.nextInt(64);
            }
            if (kind < 9) {
                page = page >>> 9 * (kind - 6) << 9 * (kind - 6);
            }
            long bits = random.nextInt(256) | (random.nextInt(8) == 0 ? 0 : Due.V) | (random.nextInt(3) == 0 ? 0 : Due.R);
            return page << 10 | bits;
        }

        private long someConfigs() {
            long c = random.nextLong();
            if (!locks) {
                c &= 0x7F7F_7F7F_7F7F_7F7FL;
            }
            // Mostly regions that let loads through or cover nothing, so that walks come far.
            for (int i = 0; i < 8; i++) {
                if (random.nextInt(3) != 0) {
                    c &= ~(0xFFL << 8 * i);
                } else if (random.nextInt(3) != 0) {
                    c |= 3L << 8 * i;
                }
            }
            return random.nextInt(4) == 0 ? c : c & ~(0xFFL << 56) | 0x1FL << 56;
        }

        private long someNumber() {
            int kind = random.nextInt(8);
            if (kind == 0) {
                return random.nextLong();
            }
            if (kind == 1) {
                return (1L << random.nextInt(64)) - random.nextInt(2);
            }
            long number = (Due.row(random.nextInt(5), random.nextInt(4)) >> 2) + random.nextInt(3) - 1;
            return kind < 4 ? number | (1L << random.nextInt(14)) - 1 : number;
        }

        private long virtual() {
            long a = 0;
            for (int i = 0; i < 4; i++) {
                a |= (random.nextInt(16) == 0 ? random.nextLong() & 511 : random.nextInt(3)) << 12 + 9 * i;
            }
            if (random.nextInt(3) == 0) {
                a &= (1L << 39) - 1;
            }
            if (random.nextInt(30) == 0) {
                a |= -1L << random.nextInt(64);
            }
            return a | offset();
        }

        private long offset() {
            return random.nextInt(3) == 0 ? random.nextInt(4096) : random.nextInt(24);
        }

        private void find() {
            calls++;
            long a = random.nextInt(12) == 0 ? random.nextLong() : random.nextInt(8) == 0 ? physical() : virtual();
            int access = random.nextInt(3);
            int mode = new int[] {0, 0, 1, 1, 1, 1, 3}[random.nextInt(7)];
            int size = 1 << random.nextInt(4);
            if (Math.floorMod(a, 4096L) + size > 4096) {
                due.refuses("run " + run + " find over the end", IllegalArgumentException.class, () -> x.find(a, access, mode, size));
                return;
            }
            long want = model.find(a, access, mode, size);
            seen[want >= 0 ? 0 : (int) -want]++;
            due.same("run " + run + " find(" + a + ", " + access + ", " + mode + ", " + size + ")", x.find(a, access, mode, size), want);
        }

        private long physical() {
            return random.nextInt(5) == 0 ? random.nextLong() >>> 8 : Due.row(random.nextInt(5), random.nextInt(4)) + random.nextInt(16) - 8;
        }

        private void allows() {
            calls++;
            long a = physical();
            int access = random.nextInt(3);
            int mode = new int[] {0, 1, 3}[random.nextInt(3)];
            int size = 1 << random.nextInt(4);
            if (Math.floorMod(a, 4096L) + size > 4096) {
                due.refuses("run " + run + " allows over the end", IllegalArgumentException.class, () -> x.allows(a, access, mode, size));
                return;
            }
            boolean want = model.letThrough(a, access, mode, size);
            seen[want ? 16 : 17]++;
            due.same("run " + run + " allows(" + a + ", " + access + ", " + mode + ", " + size + ")", x.allows(a, access, mode, size), want);
        }

        private void put(long a, long v) {
            calls++;
            x.put(a, v);
            model.memory.put(a, v);
        }

        private void table(long t) {
            calls += 2;
            x.setTable(t);
            model.table = t;
            due.same("run " + run + " table()", x.table(), t);
        }

        private void configs(long c) {
            calls += 2;
            x.setConfigs(c);
            model.setConfigs(c);
            long want = 0;
            for (int i = 7; i >= 0; i--) {
                want = want * 256 + model.configs[i];
            }
            due.same("run " + run + " configs()", x.configs(), want);
        }

        private void number(int i, long v) {
            calls += 2;
            x.setNumber(i, v);
            model.setNumber(i, v);
            due.same("run " + run + " number(" + i + ")", x.number(i), model.numbers[i]);
        }
    }
}
