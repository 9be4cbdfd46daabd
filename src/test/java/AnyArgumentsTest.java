/** No call throws, whatever its arguments: runs of 512 calls of the farthest ones, against the plain table. */
public final class AnyArgumentsTest {
    private static final Check check = new Check();
    private static final int[] INTS = {Integer.MIN_VALUE, Integer.MIN_VALUE + 1, -4, -1, 0, 1, 2, 3, 6, 7,
        23, 24, 25, 72, 511, Integer.MAX_VALUE - 1, Integer.MAX_VALUE};
    private static final long[] LONGS = {Long.MIN_VALUE, Long.MIN_VALUE + 1, -(1L << 32), -1, 0, 1, 2, 48,
        49, 63, 64, 255, 1L << 32, (1L << 47) - 1, 1L << 47, (1L << 48) - 1, 1L << 48, Long.MAX_VALUE};

    public static void main(String[] args) {
        for (int keys : new int[] {Integer.MIN_VALUE, 0, 1, 2, 3, 4, Integer.MAX_VALUE}) {
            for (int kinds : new int[] {Integer.MIN_VALUE, -1, 0, 1, 5, 13, 21, 26, 27, Integer.MAX_VALUE}) {
                for (int width : new int[] {Integer.MIN_VALUE, 0, 1, 2, 47, 48, 49, Integer.MAX_VALUE}) {
                    oneRun(keys, kinds, width);
                }
            }
        }
        check.end();
    }

    private static void oneRun(int keys, int kinds, int width) {
        EntryTable x = new EntryTable(keys, kinds, width);
        PlainTable y = new PlainTable(keys, kinds, width);
        for (int call = 0; call < 512; call++) {
            oneCall(y + ", call " + call, x, y, call);
        }
    }

    /** The steps have no divisor in common with the rows' lengths, so that all arguments come to meet. */
    private static void oneCall(String at, EntryTable x, PlainTable y, int call) {
        int i = INTS[call * 5 % INTS.length];
        long a = LONGS[call * 5 % LONGS.length];
        long b = LONGS[call * 7 % LONGS.length];
        long c = LONGS[call * 11 % LONGS.length];
        switch (call % 9) {
            case 0 -> check.due(at + " match", x.match(i, a, b), y.match(i, a, b));
            case 1, 2, 3 -> {
                int k = call % 9 - 1;
                long value = call % 2 == 0 ? a & (1L << y.count(1)) - 1 : 0;
                check.due(at + " match", x.match(k, value, b), y.match(k, value, b));
            }
            case 4 -> check.due(at + " insert", x.insert(i), y.insert(i));
            case 5 -> check.due(at + " find", x.find(a, b, c), y.find(a, b, c));
            case 6 -> check.due(at + " nth", x.nth(i), y.nth(i));
            case 7 -> check.due(at + " hits", x.hits(i), y.hits(i));
            default -> {
                if (call % 4 == 0) {
                    check.due(at + " remove", x.remove(i), y.remove(i));
                } else {
                    check.due(at + " count", x.count(i), y.count(i));
                }
            }
        }
    }
}
