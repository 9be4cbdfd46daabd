/**
 * A table of entries that match numbers exactly, by their highest bits, or where masks say; of
 * those that match one counts.
 */
public final class EntryTable {
    public static final int REFUSED = -1, NONE = -2, FULL = -3, THERE = -4;

    private static final int EXACT = 0, PREFIX = 1;
    private static final int MOST_KEYS = 3, MOST_BITS = 48, MOST_ENTRIES = 24;
    private static final int NO_RANK = -1;

    private final int keys;
    private final int width;
    private final long allBits;
    private final int[] kinds = new int[MOST_KEYS];

    /** The entry that is made up, just as it was told: it is judged only by insert. */
    private final long[] draftValues = new long[MOST_KEYS];
    private final long[] draftMasks = new long[MOST_KEYS];

    /**
     * The slots of the entries in the order in which they count, then the free slots. An entry
     * keeps its slot while it is there, so only this row moves when entries come and go.
     */
    private final int[] order = new int[MOST_ENTRIES];
    private int entries = 0;
    private int nextNumber = 0;
    private int misses = 0;

    private final int[] numbers = new int[MOST_ENTRIES];
    private final int[] priorities = new int[MOST_ENTRIES];
    private final int[] prefixes = new int[MOST_ENTRIES];
    private final int[] finds = new int[MOST_ENTRIES];

    /**
     * Of each slot and key the value and the bits that are looked at. Every kind of key is held
     * as a mask here, and a key beyond K as an empty one, so that one comparison fits them all.
     */
    private final long[] values = new long[MOST_ENTRIES * MOST_KEYS];
    private final long[] masks = new long[MOST_ENTRIES * MOST_KEYS];

    public EntryTable(int keys, int kinds, int width) {
        this.keys = Math.max(1, Math.min(MOST_KEYS, keys));
        this.width = Math.max(1, Math.min(MOST_BITS, width));
        this.allBits = (1L << this.width) - 1;
        int digits = Math.max(0, kinds);
        boolean hasPrefix = false;
        for (int k = 0; k < MOST_KEYS; k++) {
            int kind = digits % 3;
            digits = digits / 3;
            this.kinds[k] = kind == PREFIX && hasPrefix ? EXACT : kind;
            hasPrefix = hasPrefix || kind == PREFIX;
        }
        for (int slot = 0; slot < MOST_ENTRIES; slot++) {
            this.order[slot] = slot;
        }
    }

    public int match(int k, long value, long mask) {
        if (k < 0 || k >= MOST_KEYS) {
            return REFUSED;
        }
        draftValues[k] = value;
        draftMasks[k] = mask;
        return k;
    }

    public int insert(int priority) {
        if (!isDraftSound()) {
            return REFUSED;
        }
        if (isDraftThere(priority)) {
            return THERE;
        }
        if (entries >= MOST_ENTRIES) {
            return FULL;
        }
        int slot = takeSlot(rankForDraft(priority));
        fillSlot(slot, priority);
        clearDraft();
        return numbers[slot];
    }

    public int remove(int entry) {
        int rank = rankOf(entry);
        if (rank == NO_RANK) {
            return NONE;
        }
        freeSlot(rank);
        return entries;
    }

    public int find(long a, long b, long c) {
        for (int rank = 0; rank < entries; rank++) {
            int slot = order[rank];
            if (fits(slot, 0, a) && fits(slot, 1, b) && fits(slot, 2, c)) {
                finds[slot]++;
                return numbers[slot];
            }
        }
        misses++;
        return NONE;
    }

    public int nth(int k) {
        if (k < 0 || k >= entries) {
            return NONE;
        }
        return numbers[order[k]];
    }

    public int hits(int entry) {
        int rank = rankOf(entry);
        if (rank == NO_RANK) {
            return NONE;
        }
        return finds[order[rank]];
    }

    public int count(int what) {
        switch (what) {
            case 0:
                return keys;
            case 1:
                return width;
            case 2:
                return entries;
            case 3:
                return misses;
            case 4:
            case 5:
            case 6:
                return kinds[what - 4];
            default:
                return REFUSED;
        }
    }

    private boolean isDraftSound() {
        for (int k = 0; k < keys; k++) {
            if (!isDraftKeySound(k)) {
                return false;
            }
        }
        return true;
    }

    private boolean isDraftKeySound(int k) {
        if (!isNumber(draftValues[k])) {
            return false;
        }
        if (kinds[k] == EXACT) {
            return true;
        }
        boolean isMaskSound = kinds[k] == PREFIX
                ? draftMasks[k] >= 0 && draftMasks[k] <= width
                : isNumber(draftMasks[k]);
        return isMaskSound && (draftValues[k] & ~draftBits(k)) == 0;
    }

    private boolean isNumber(long x) {
        return x >= 0 && x <= allBits;
    }

    /** The bits of key k that the entry made up looks at, once its prefix is known to be sound. */
    private long draftBits(int k) {
        if (kinds[k] == EXACT) {
            return allBits;
        }
        if (kinds[k] == PREFIX) {
            return allBits ^ (allBits >>> (int) draftMasks[k]);
        }
        return draftMasks[k];
    }

    /** 0 where no key is a PREFIX, so that prefixes then decide nothing. */
    private int draftPrefix() {
        for (int k = 0; k < keys; k++) {
            if (kinds[k] == PREFIX) {
                return (int) draftMasks[k];
            }
        }
        return 0;
    }

    private boolean isDraftThere(int priority) {
        for (int rank = 0; rank < entries; rank++) {
            int slot = order[rank];
            if (priorities[slot] == priority && isDraftIn(slot)) {
                return true;
            }
        }
        return false;
    }

    private boolean isDraftIn(int slot) {
        for (int k = 0; k < keys; k++) {
            int at = slot * MOST_KEYS + k;
            if (values[at] != draftValues[k] || masks[at] != draftBits(k)) {
                return false;
            }
        }
        return true;
    }

    /** Behind all its equals, for the entry made up is the youngest. */
    private int rankForDraft(int priority) {
        int prefix = draftPrefix();
        for (int rank = 0; rank < entries; rank++) {
            int slot = order[rank];
            if (prefixes[slot] < prefix
                    || prefixes[slot] == prefix && priorities[slot] < priority) {
                return rank;
            }
        }
        return entries;
    }

    private int takeSlot(int rank) {
        int slot = order[entries];
        System.arraycopy(order, rank, order, rank + 1, entries - rank);
        order[rank] = slot;
        entries++;
        return slot;
    }

    private void freeSlot(int rank) {
        int slot = order[rank];
        entries--;
        System.arraycopy(order, rank + 1, order, rank, entries - rank);
        order[entries] = slot;
    }

    private void fillSlot(int slot, int priority) {
        numbers[slot] = nextNumber;
        nextNumber++;
        priorities[slot] = priority;
        prefixes[slot] = draftPrefix();
        finds[slot] = 0;
        // The bits of keys beyond K stay 0 in every slot, as they were made.
        for (int k = 0; k < keys; k++) {
            values[slot * MOST_KEYS + k] = draftValues[k];
            masks[slot * MOST_KEYS + k] = draftBits(k);
        }
    }

    private void clearDraft() {
        for (int k = 0; k < MOST_KEYS; k++) {
            draftValues[k] = 0;
            draftMasks[k] = 0;
        }
    }

    private int rankOf(int entry) {
        for (int rank = 0; rank < entries; rank++) {
            if (numbers[order[rank]] == entry) {
                return rank;
            }
        }
        return NO_RANK;
    }

    /** Bits above the width are in no mask, and a value has no bits outside its mask. */
    private boolean fits(int slot, int k, long key) {
        int at = slot * MOST_KEYS + k;
        return (key & masks[at]) == values[at];
    }
}
