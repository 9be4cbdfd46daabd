import java.util.Random;

/** Runs of 512 calls, the same ones each time, against the plain table. */
public final class LongRunsTest {
    private static final Check check = new Check();
    private static final int[] seen = new int[5];

    public static void main(String[] args) {
        for (int run = 0; run < 3000; run++) {
            oneRun(run);
        }
        for (int i = 0; i < seen.length; i++) {
            check.isTrue("insert answered " + -i + " somewhere", seen[i] > 100 || i == 2);
        }
        check.end();
    }

    private static void oneRun(int run) {
        Random dice = new Random(run);
        int keys = dice.nextInt(5);
        int kinds = dice.nextInt(30) - 2;
        int width = run % 3 == 0 ? dice.nextInt(52) - 1 : 1 + dice.nextInt(4);
        EntryTable x = new EntryTable(keys, kinds, width);
        PlainTable y = new PlainTable(keys, kinds, width);
        boolean filling = run % 2 == 0;
        for (int call = 0; call < 512; call++) {
            oneCall("run " + run + " (" + y + ") call " + call, dice, x, y, filling);
        }
    }

    private static void oneCall(String at, Random dice, EntryTable x, PlainTable y, boolean filling) {
        // The plain table is asked for what the dice need: x is good for 512 calls alone.
        int width = y.count(1);
        switch (dice.nextInt(filling ? 11 : 13)) {
            case 0, 1, 2, 3 -> {
                int k = dice.nextInt(40) == 0 ? dice.nextInt(9) - 4 : dice.nextInt(y.count(0));
                long mask = mask(dice, k >= 0 && k < 3 ? y.count(4 + k) : 0, width);
                long value = value(dice, k >= 0 && k < 3 ? y.count(4 + k) : 0, width, mask);
                check.due(at + " match", x.match(k, value, mask), y.match(k, value, mask));
            }
            case 4, 5, 6 -> {
                int priority = dice.nextInt(9) == 0 ? dice.nextInt() : dice.nextInt(3) - 1;
                int want = y.insert(priority);
                check.due(at + " insert", x.insert(priority), want);
                seen[want < 0 ? -want : 0]++;
            }
            case 7 -> {
                long a = key(dice, width);
                long b = key(dice, width);
                long c = key(dice, width);
                check.due(at + " find", x.find(a, b, c), y.find(a, b, c));
            }
            case 8 -> {
                int k = dice.nextInt(28) - 2;
                check.due(at + " nth", x.nth(k), y.nth(k));
            }
            case 9 -> {
                int entry = dice.nextInt(60) - 2;
                check.due(at + " hits", x.hits(entry), y.hits(entry));
            }
            case 10 -> {
                int what = dice.nextInt(10) - 1;
                check.due(at + " count", x.count(what), y.count(what));
            }
            default -> {
                int entry = dice.nextInt(4) == 0 ? dice.nextInt(60) - 2 : y.nth(dice.nextInt(24));
                check.due(at + " remove", x.remove(entry), y.remove(entry));
            }
        }
    }

    private static long mask(Random dice, int kind, int width) {
        if (dice.nextInt(40) == 0) {
            return dice.nextBoolean() ? dice.nextLong() : dice.nextInt(60) - 3;
        }
        return kind == 1 ? dice.nextInt(width + 1) : key(dice, width) & (1L << width) - 1;
    }

    private static long value(Random dice, int kind, int width, long mask) {
        long value = key(dice, width);
        if (dice.nextInt(20) == 0) {
            return value;
        }
        value &= (1L << width) - 1;
        if (kind == 1) {
            return mask >= 0 && mask <= width ? value >> width - mask << width - mask : value;
        }
        return kind == 2 ? value & mask : value;
    }

    private static long key(Random dice, int width) {
        return dice.nextInt(10) == 0 ? dice.nextLong() : dice.nextLong() >>> 64 - width;
    }
}
