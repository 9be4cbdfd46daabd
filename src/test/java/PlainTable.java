import java.util.ArrayList;
import java.util.Arrays;
import java.util.Comparator;
import java.util.List;

/** The document's words, bit by bit, with no care for speed: what EntryTable is compared with. */
final class PlainTable {
    private static final class Row {
        int number;
        int priority;
        int found;
        long[] value;
        long[] mask;
    }

    private final int keys;
    private final int width;
    private final int[] kinds = new int[3];
    private final List<Row> rows = new ArrayList<>();
    private long[] value = new long[3];
    private long[] mask = new long[3];
    private int next = 0;
    private int misses = 0;

    PlainTable(int keys, int kinds, int width) {
        this.keys = keys < 1 ? 1 : keys > 3 ? 3 : keys;
        this.width = width < 1 ? 1 : width > 48 ? 48 : width;
        String digits = "00" + (kinds < 0 ? "0" : Integer.toString(kinds, 3));
        boolean prefix = false;
        for (int k = 0; k < 3; k++) {
            this.kinds[k] = digits.charAt(digits.length() - 1 - k) - '0';
            if (this.kinds[k] == 1) {
                this.kinds[k] = prefix ? 0 : 1;
                prefix = true;
            }
        }
    }

    int match(int k, long v, long m) {
        if (k != 0 && k != 1 && k != 2) {
            return -1;
        }
        value[k] = v;
        mask[k] = m;
        return k;
    }

    private boolean looksAt(int k, long m, int bit) {
        switch (kinds[k]) {
            case 0: return true;
            case 1: return width - 1 - bit < m;
            default: return (m >> bit & 1) == 1;
        }
    }

    private boolean wrong(int k) {
        long end = 1L << width;
        if (value[k] < 0 || value[k] >= end) {
            return true;
        }
        if (kinds[k] == 1 && (mask[k] < 0 || mask[k] > width)) {
            return true;
        }
        if (kinds[k] == 2 && (mask[k] < 0 || mask[k] >= end)) {
            return true;
        }
        for (int bit = 0; bit < width; bit++) {
            if ((value[k] >> bit & 1) == 1 && !looksAt(k, mask[k], bit)) {
                return true;
            }
        }
        return false;
    }

    int insert(int priority) {
        for (int k = 0; k < keys; k++) {
            if (wrong(k)) {
                return -1;
            }
        }
        for (Row r : rows) {
            boolean same = r.priority == priority;
            for (int k = 0; k < keys; k++) {
                same &= r.value[k] == value[k] && (kinds[k] == 0 || r.mask[k] == mask[k]);
            }
            if (same) {
                return -4;
            }
        }
        if (rows.size() == 24) {
            return -3;
        }
        Row r = new Row();
        r.number = next++;
        r.priority = priority;
        r.value = value;
        r.mask = mask;
        rows.add(r);
        value = new long[3];
        mask = new long[3];
        return r.number;
    }

    private Row row(int entry) {
        for (Row r : rows) {
            if (r.number == entry) {
                return r;
            }
        }
        return null;
    }

    int remove(int entry) {
        return rows.remove(row(entry)) ? rows.size() : -2;
    }

    private long prefix(Row r) {
        for (int k = 0; k < keys; k++) {
            if (kinds[k] == 1) {
                return r.mask[k];
            }
        }
        return 0;
    }

    private List<Row> ranked() {
        List<Row> all = new ArrayList<>(rows);
        all.sort(Comparator.<Row>comparingLong(r -> -prefix(r))
                .thenComparing(Comparator.<Row>comparingInt(r -> r.priority).reversed())
                .thenComparingInt(r -> r.number));
        return all;
    }

    int find(long a, long b, long c) {
        long[] key = {a, b, c};
        for (Row r : ranked()) {
            boolean fits = true;
            for (int k = 0; k < keys; k++) {
                for (int bit = 0; bit < width; bit++) {
                    fits &= !looksAt(k, r.mask[k], bit) || (r.value[k] >> bit & 1) == (key[k] >> bit & 1);
                }
            }
            if (fits) {
                r.found++;
                return r.number;
            }
        }
        misses++;
        return -2;
    }

    int nth(int k) {
        return k >= 0 && k < rows.size() ? ranked().get(k).number : -2;
    }

    int hits(int entry) {
        Row r = row(entry);
        return r == null ? -2 : r.found;
    }

    int count(int what) {
        int[] all = {keys, width, rows.size(), misses, kinds[0], kinds[1], kinds[2]};
        return what >= 0 && what < all.length ? all[what] : -1;
    }

    @Override
    public String toString() {
        return "keys " + keys + ", kinds " + Arrays.toString(kinds) + ", width " + width;
    }
}
