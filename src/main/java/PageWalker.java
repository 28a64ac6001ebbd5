/**
 * Translation of addresses by tables in memory, guarded by regions of physical addresses.
 *
 * <p>Nothing that was found is remembered between calls: each find walks the tables anew.
 */
public final class PageWalker {
    public static final int FETCH = 0, LOAD = 1, STORE = 2;

    private static final int USER = 0, SUPERVISOR = 1, MACHINE = 3;

    private static final long MEMORY_START = 1L << 31;
    private static final int MEMORY_BYTES = 65_536;
    private static final int WORD_BYTES = 8;
    private static final int NO_WORD = -1;

    private static final int PAGE_BITS = 12;
    private static final long PAGE_BYTES = 1L << PAGE_BITS;
    private static final long PAGE_NUMBER_MASK = (1L << 44) - 1;
    private static final int PHYSICAL_BITS = 56;

    private static final int SORT_SHIFT = 60;
    private static final int SORT_NONE = 0, SORT_THREE = 8, SORT_FOUR = 9;
    private static final int DEPTH_BITS = 9;
    private static final long DEPTH_MASK = (1L << DEPTH_BITS) - 1;

    private static final long ENTRY_V = 1, ENTRY_R = 1 << 1, ENTRY_W = 1 << 2, ENTRY_X = 1 << 3;
    private static final long ENTRY_U = 1 << 4, ENTRY_A = 1 << 6, ENTRY_D = 1 << 7;
    private static final int ENTRY_NUMBER_SHIFT = 10;
    private static final int ENTRY_UNUSED_SHIFT = 54;

    private final long[] words = new long[MEMORY_BYTES / WORD_BYTES];
    private final Regions regions = new Regions();
    private long table = 0;
    private boolean sum = false;
    private boolean mxr = false;

    public PageWalker() {
    }

    public long word(long address) throws IndexOutOfBoundsException {
        int index = wordIndex(address);
        if (index == NO_WORD) {
            throw new IndexOutOfBoundsException("no word of memory is there");
        }
        return words[index];
    }

    public void put(long address, long v) throws IndexOutOfBoundsException {
        int index = wordIndex(address);
        if (index == NO_WORD) {
            throw new IndexOutOfBoundsException("no word of memory is there");
        }
        words[index] = v;
    }

    public long table() {
        return table;
    }

    public void setTable(long t) throws IllegalArgumentException {
        int sort = sortOf(t);
        if (sort != SORT_NONE && sort != SORT_THREE && sort != SORT_FOUR) {
            throw new IllegalArgumentException("the sort is none of 0, 8, 9");
        }
        table = t;
    }

    public void rights(boolean sum, boolean mxr) {
        this.sum = sum;
        this.mxr = mxr;
    }

    public long configs() {
        return regions.packedConfigs();
    }

    public void setConfigs(long c) {
        regions.takeConfigs(c);
    }

    public long number(int region) throws IndexOutOfBoundsException {
        return regions.numberOf(region);
    }

    public void setNumber(int region, long v) throws IndexOutOfBoundsException {
        regions.takeNumber(region, v);
    }

    public long find(long address, int access, int mode, int size) throws IllegalArgumentException {
        if (!isAccess(address, access, mode, size)) {
            throw new IllegalArgumentException("no such access");
        }
        long physical = translate(address, access, mode);
        if (physical < 0) {
            return physical;
        }
        return regions.letThrough(physical, access, mode, size) ? physical : accessFault(access);
    }

    public boolean allows(long address, int access, int mode, int size) throws IllegalArgumentException {
        if (!isAccess(address, access, mode, size) || !isPhysical(address)) {
            throw new IllegalArgumentException("no such access, or no physical address");
        }
        return regions.letThrough(address, access, mode, size);
    }

    public void fence() {
        // Nothing is remembered between calls, so there is nothing to forget.
    }

    private static boolean isAccess(long address, int access, int mode, int size) {
        return (access == FETCH || access == LOAD || access == STORE)
                && (mode == USER || mode == SUPERVISOR || mode == MACHINE)
                && (size == 1 || size == 2 || size == 4 || size == 8)
                && (address & (PAGE_BYTES - 1)) + size <= PAGE_BYTES;
    }

    private static boolean isPhysical(long address) {
        return address >>> PHYSICAL_BITS == 0;
    }

    private static int sortOf(long t) {
        return (int) (t >>> SORT_SHIFT);
    }

    private static long accessFault(int access) {
        return access == FETCH ? -1 : access == LOAD ? -5 : -7;
    }

    private static long pageFault(int access) {
        return access == FETCH ? -12 : access == LOAD ? -13 : -15;
    }

    private static int wordIndex(long address) {
        long offset = address - MEMORY_START;
        if (offset < 0 || offset >= MEMORY_BYTES || offset % WORD_BYTES != 0) {
            return NO_WORD;
        }
        return (int) (offset / WORD_BYTES);
    }

    /** The physical address, or the fault below 0; the bytes there are not yet looked at. */
    private long translate(long address, int access, int mode) {
        int sort = sortOf(table);
        if (mode == MACHINE || sort == SORT_NONE) {
            return isPhysical(address) ? address : accessFault(access);
        }
        int depths = sort == SORT_THREE ? 3 : 4;
        // The sign bit of what is translated must fill all the bits above it.
        long above = address >> (PAGE_BITS + DEPTH_BITS * depths - 1);
        if (above != 0 && above != -1) {
            return pageFault(access);
        }
        return walk(address, access, mode, depths);
    }

    /** Entries are read and marked as by a supervisor, whatever the mode of the access. */
    private long walk(long address, int access, int mode, int depths) {
        long page = table & PAGE_NUMBER_MASK;
        for (int depth = depths - 1; depth >= 0; depth--) {
            long place = entryPlace(page, address, depth);
            if (wordIndex(place) == NO_WORD || !regions.letThrough(place, LOAD, SUPERVISOR, WORD_BYTES)) {
                return accessFault(access);
            }
            long entry = word(place);
            if (isMalformed(entry)) {
                return pageFault(access);
            }
            if (isLast(entry)) {
                if (!grants(entry, access, mode, depth)) {
                    return pageFault(access);
                }
                return mark(place, entry, access) ? target(entry, address, depth) : accessFault(access);
            }
            page = pageNumber(entry);
        }
        // The entry of the lowest depth led to a further table, and there is none below it.
        return pageFault(access);
    }

    private static long entryPlace(long page, long address, int depth) {
        long row = (address >> shiftOf(depth)) & DEPTH_MASK;
        return page * PAGE_BYTES + row * WORD_BYTES;
    }

    private static int shiftOf(int depth) {
        return PAGE_BITS + DEPTH_BITS * depth;
    }

    private static boolean has(long entry, long bit) {
        return (entry & bit) != 0;
    }

    private static long pageNumber(long entry) {
        return (entry >>> ENTRY_NUMBER_SHIFT) & PAGE_NUMBER_MASK;
    }

    private static boolean isLast(long entry) {
        return has(entry, ENTRY_R | ENTRY_X);
    }

    private static boolean isMalformed(long entry) {
        return !has(entry, ENTRY_V)
                || has(entry, ENTRY_W) && !has(entry, ENTRY_R)
                || entry >>> ENTRY_UNUSED_SHIFT != 0
                || !isLast(entry) && has(entry, ENTRY_U | ENTRY_A | ENTRY_D);
    }

    private boolean grants(long entry, int access, int mode, int depth) {
        long lowNumber = (1L << (DEPTH_BITS * depth)) - 1;
        return (pageNumber(entry) & lowNumber) == 0
                && isOpenToMode(entry, access, mode)
                && isOpenToAccess(entry, access);
    }

    private boolean isOpenToMode(long entry, int access, int mode) {
        if (mode == USER) {
            return has(entry, ENTRY_U);
        }
        return !has(entry, ENTRY_U) || sum && access != FETCH;
    }

    private boolean isOpenToAccess(long entry, int access) {
        if (access == FETCH) {
            return has(entry, ENTRY_X);
        }
        if (access == STORE) {
            return has(entry, ENTRY_W);
        }
        return has(entry, ENTRY_R) || mxr && has(entry, ENTRY_X);
    }

    /** Puts the marks that the entry wants; false if the regions do not let them be stored. */
    private boolean mark(long place, long entry, int access) {
        long marks = access == STORE ? ENTRY_A | ENTRY_D : ENTRY_A;
        if ((entry & marks) == marks) {
            return true;
        }
        if (!regions.letThrough(place, STORE, SUPERVISOR, WORD_BYTES)) {
            return false;
        }
        put(place, entry | marks);
        return true;
    }

    private static long target(long entry, long address, int depth) {
        long within = (1L << shiftOf(depth)) - 1;
        return pageNumber(entry) * PAGE_BYTES | address & within;
    }

    /** The eight regions, in the order in which they decide. */
    private static final class Regions {
        private static final int COUNT = 8;
        private static final int CONFIG_BITS = 8;
        private static final int CONFIG_R = 1, CONFIG_W = 1 << 1, CONFIG_X = 1 << 2, CONFIG_L = 1 << 7;
        private static final int CONFIG_A_SHIFT = 3;
        private static final int CONFIG_A_MASK = 3;
        private static final int CONFIG_USED = 0x9F;
        private static final int A_FROM_BEFORE = 1, A_FOUR = 2, A_POWER = 3;
        private static final long NUMBER_MASK = (1L << 54) - 1;
        private static final long UNIT = 4;

        private final int[] configs = new int[COUNT];
        private final long[] numbers = new long[COUNT];

        long packedConfigs() {
            long packed = 0;
            for (int region = 0; region < COUNT; region++) {
                packed |= (long) configs[region] << (CONFIG_BITS * region);
            }
            return packed;
        }

        void takeConfigs(long packed) {
            for (int region = 0; region < COUNT; region++) {
                if (!isLocked(configs[region])) {
                    configs[region] = legalConfig((int) (packed >>> (CONFIG_BITS * region)));
                }
            }
        }

        long numberOf(int region) {
            if (region < 0 || region >= COUNT) {
                throw new IndexOutOfBoundsException("no such region");
            }
            return numbers[region];
        }

        void takeNumber(int region, long v) {
            if (region < 0 || region >= COUNT) {
                throw new IndexOutOfBoundsException("no such region");
            }
            boolean isFixedByNext = region + 1 < COUNT && fixesNumberBefore(configs[region + 1]);
            if (!isLocked(configs[region]) && !isFixedByNext) {
                numbers[region] = v & NUMBER_MASK;
            }
        }

        boolean letThrough(long first, int access, int mode, int size) {
            long end = first + size;
            long before = 0;
            for (int region = 0; region < COUNT; region++) {
                int config = configs[region];
                long number = numbers[region];
                long from = startOf(config, number, before);
                long to = endOf(config, number);
                // A region whose end is not behind its start covers nothing, even inside the bytes.
                if (from < to && from < end && first < to) {
                    return from <= first && end <= to && permits(config, access, mode);
                }
                before = number;
            }
            return mode == MACHINE;
        }

        private static int legalConfig(int asked) {
            int config = asked & CONFIG_USED;
            return (config & CONFIG_R) == 0 ? config & ~CONFIG_W : config;
        }

        private static boolean isLocked(int config) {
            return (config & CONFIG_L) != 0;
        }

        private static boolean fixesNumberBefore(int config) {
            return isLocked(config) && kindOf(config) == A_FROM_BEFORE;
        }

        private static int kindOf(int config) {
            return (config >> CONFIG_A_SHIFT) & CONFIG_A_MASK;
        }

        private static boolean permits(int config, int access, int mode) {
            if (mode == MACHINE && !isLocked(config)) {
                return true;
            }
            int needed = access == FETCH ? CONFIG_X : access == LOAD ? CONFIG_R : CONFIG_W;
            return (config & needed) != 0;
        }

        private static long startOf(int config, long number, long before) {
            switch (kindOf(config)) {
                case A_FROM_BEFORE:
                    return UNIT * before;
                case A_FOUR:
                    return UNIT * number;
                case A_POWER:
                    // The ones that the number ends with become 0.
                    return UNIT * (number & (number + 1));
                default:
                    return 0;
            }
        }

        private static long endOf(int config, long number) {
            switch (kindOf(config)) {
                case A_FROM_BEFORE:
                    return UNIT * number;
                case A_FOUR:
                    return UNIT * (number + 1);
                case A_POWER:
                    // The zero before those ones becomes 1 too: k + 1 ones, and 2^(k + 1) units from the start.
                    return UNIT * ((number | (number + 1)) + 1);
                default:
                    return 0;
            }
        }
    }
}
