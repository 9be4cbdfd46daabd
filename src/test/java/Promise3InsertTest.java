public final class Promise3InsertTest {
    private static final Check check = new Check();

    public static void main(String[] args) {
        numbersComeInTurn();
        anotherEntryIsBegun();
        for (int width : new int[] {1, 2, 8, 31, 32, 33, 47, 48}) {
            exactValuesAreLimited(width);
            masksAreLimited(width);
            prefixesAreLimited(width);
        }
        eachOfTheKeysIsLookedAt();
        refusedChangesNothing();
        thereNeedsAllTheSame();
        fullComesLast();
        check.end();
    }

    private static int insertOne(int kind, int width, long value, long mask) {
        EntryTable x = new EntryTable(1, kind, width);
        x.match(0, value, mask);
        return x.insert(0);
    }

    private static void numbersComeInTurn() {
        EntryTable x = new EntryTable(1, 0, 8);
        for (int i = 0; i < 24; i++) {
            x.match(0, 100 + i, 0);
            check.due("insert number " + i, x.insert(Integer.MIN_VALUE), i);
            check.due("count(2)", x.count(2), i + 1);
        }
    }

    private static void anotherEntryIsBegun() {
        EntryTable x = new EntryTable(3, 0 + 3 + 18, 8);
        x.match(0, 7, 3);
        x.match(1, 128, 1);
        x.match(2, 3, 3);
        check.due("insert(0)", x.insert(0), 0);
        check.due("insert(0) of zeros", x.insert(0), 1);
        check.due("find(0, 255, 255)", x.find(0, 255, 255), 1);
        check.due("find(7, 255, 255)", x.find(7, 255, 255), 0);
        check.due("insert(0) of zeros again", x.insert(0), EntryTable.THERE);
    }

    private static void exactValuesAreLimited(int width) {
        long top = (1L << width) - 1;
        check.due("exact 0", insertOne(0, width, 0, -1), 0);
        check.due("exact top", insertOne(0, width, top, Long.MIN_VALUE), 0);
        check.due("exact above", insertOne(0, width, top + 1, 0), EntryTable.REFUSED);
        check.due("exact -1", insertOne(0, width, -1, 0), EntryTable.REFUSED);
        check.due("exact least", insertOne(0, width, Long.MIN_VALUE, 0), EntryTable.REFUSED);
        check.due("exact most", insertOne(0, width, Long.MAX_VALUE, 0), EntryTable.REFUSED);
    }

    private static void masksAreLimited(int width) {
        long top = (1L << width) - 1;
        check.due("mask 0", insertOne(2, width, 0, 0), 0);
        check.due("mask top", insertOne(2, width, top, top), 0);
        check.due("mask above", insertOne(2, width, 0, top + 1), EntryTable.REFUSED);
        check.due("mask above with value", insertOne(2, width, top + 1, top + 1), EntryTable.REFUSED);
        check.due("mask -1", insertOne(2, width, 0, -1), EntryTable.REFUSED);
        check.due("mask and value -1", insertOne(2, width, -1, -1), EntryTable.REFUSED);
        check.due("mask least", insertOne(2, width, 0, Long.MIN_VALUE), EntryTable.REFUSED);
        check.due("value beside mask", insertOne(2, width, 1, top - 1), EntryTable.REFUSED);
        check.due("value without mask", insertOne(2, width, top, 0), EntryTable.REFUSED);
        check.due("value inside mask", insertOne(2, width, 1, 1), 0);
        check.due("value less than mask", insertOne(2, width, 0, top), 0);
    }

    private static void prefixesAreLimited(int width) {
        long top = (1L << width) - 1;
        long[] wrong = {-1, width + 1, 64, 1L << 32, (1L << 32) + 1, Long.MIN_VALUE, Long.MAX_VALUE};
        for (long prefix : wrong) {
            check.due("prefix " + prefix, insertOne(1, width, 0, prefix), EntryTable.REFUSED);
        }
        for (int prefix = 0; prefix <= width; prefix++) {
            long bits = 0;
            for (int i = 0; i < prefix; i++) {
                bits |= 1L << (width - 1 - i);
            }
            check.due("value of prefix " + prefix, insertOne(1, width, bits, prefix), 0);
            check.due("value 0 of prefix " + prefix, insertOne(1, width, 0, prefix), 0);
            if (prefix < width) {
                long beside = 1L << (width - 1 - prefix);
                check.due("beside prefix " + prefix, insertOne(1, width, beside, prefix), EntryTable.REFUSED);
                check.due("all of prefix " + prefix, insertOne(1, width, top, prefix), EntryTable.REFUSED);
            }
        }
        check.due("value above", insertOne(1, width, top + 1, width), EntryTable.REFUSED);
        check.due("value -1", insertOne(1, width, -1, width), EntryTable.REFUSED);
    }

    private static void eachOfTheKeysIsLookedAt() {
        for (int keys = 1; keys <= 3; keys++) {
            for (int k = 0; k < 3; k++) {
                for (int kinds : new int[] {0, 1, 3, 9, 26}) {
                    EntryTable x = new EntryTable(keys, kinds, 4);
                    x.match(k, 16, 15);
                    int want = k < keys ? EntryTable.REFUSED : 0;
                    check.due("insert with key " + k + " of " + keys + " wrong", x.insert(0), want);
                }
            }
        }
    }

    private static void refusedChangesNothing() {
        EntryTable x = new EntryTable(2, 2, 4);
        x.match(0, 3, 1);
        x.match(1, 5, 0);
        check.due("insert(0)", x.insert(0), EntryTable.REFUSED);
        check.due("insert(0) again", x.insert(0), EntryTable.REFUSED);
        check.due("count(2)", x.count(2), 0);
        x.match(0, 3, 3);
        check.due("insert(0) mended", x.insert(0), 0);
        check.due("find(7, 5, 0)", x.find(7, 5, 0), 0);
        check.due("find(7, 0, 0)", x.find(7, 0, 0), EntryTable.NONE);
    }

    private static void thereNeedsAllTheSame() {
        EntryTable x = new EntryTable(3, 1 + 6, 4);
        check.due("first", tell(x, 8, 1, 4, 4, 9, 0), 0);
        check.due("same", tell(x, 8, 1, 4, 4, 9, 0), EntryTable.THERE);
        check.due("same once more", x.insert(0), EntryTable.THERE);
        check.due("other priority", x.insert(1), 1);
        check.due("other prefix", tell(x, 8, 2, 4, 4, 9, 0), 2);
        check.due("other value of the prefix", tell(x, 0, 1, 4, 4, 9, 0), 3);
        check.due("other mask", tell(x, 8, 1, 4, 5, 9, 0), 4);
        check.due("other value of the mask", tell(x, 8, 1, 0, 4, 9, 0), 5);
        check.due("other exact value", tell(x, 8, 1, 4, 4, 8, 0), 6);
        check.due("there while wrong", tell(x, 8, 5, 4, 4, 9, 0), EntryTable.REFUSED);
        check.due("remove(0)", x.remove(0), 6);
        check.due("same after it went", tell(x, 8, 1, 4, 4, 9, 0), 7);
    }

    private static int tell(EntryTable x, long a, long prefix, long b, long mask, long c, int priority) {
        x.match(0, a, prefix);
        x.match(1, b, mask);
        x.match(2, c, 0);
        return x.insert(priority);
    }

    private static void fullComesLast() {
        EntryTable x = new EntryTable(1, 0, 8);
        for (int i = 0; i < 24; i++) {
            x.match(0, i, 0);
            x.insert(0);
        }
        x.match(0, 256, 0);
        check.due("wrong with 24", x.insert(0), EntryTable.REFUSED);
        x.match(0, 23, 0);
        check.due("there with 24", x.insert(0), EntryTable.THERE);
        x.match(0, 24, 0);
        check.due("another with 24", x.insert(0), EntryTable.FULL);
        check.due("another with 24 again", x.insert(0), EntryTable.FULL);
        check.due("count(2)", x.count(2), 24);
        check.due("find(24, 0, 0)", x.find(24, 0, 0), EntryTable.NONE);
        check.due("remove(7)", x.remove(7), 23);
        check.due("what was told is still there", x.insert(0), 24);
        check.due("find(24, 0, 0)", x.find(24, 0, 0), 24);
        check.due("full again", x.insert(9), EntryTable.FULL);
    }
}
