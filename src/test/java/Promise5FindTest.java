public final class Promise5FindTest {
    private static final Check check = new Check();

    public static void main(String[] args) {
        exactLooksAtAllBits();
        prefixLooksAtTheHighest();
        maskLooksWhereItSays();
        allKeysMustMatch();
        onlyLowestBitsOfKeysCount();
        longestPrefixThenPriorityThenAge();
        check.end();
    }

    private static void exactLooksAtAllBits() {
        EntryTable x = new EntryTable(1, 0, 48);
        long value = 0xA5A5A5A5A5A5L;
        x.match(0, value, 0);
        check.due("insert", x.insert(0), 0);
        check.due("the value", x.find(value, 0, 0), 0);
        for (int bit = 0; bit < 48; bit++) {
            check.due("without bit " + bit, x.find(value ^ 1L << bit, 0, 0), EntryTable.NONE);
        }
        for (int bit = 48; bit < 64; bit++) {
            check.due("with bit " + bit, x.find(value ^ 1L << bit, 0, 0), 0);
        }
    }

    private static void prefixLooksAtTheHighest() {
        for (int prefix = 0; prefix <= 48; prefix++) {
            EntryTable x = new EntryTable(1, 1, 48);
            long value = 0;
            for (int bit = 47; bit >= 48 - prefix; bit -= 2) {
                value |= 1L << bit;
            }
            x.match(0, value, prefix);
            check.due("insert with prefix " + prefix, x.insert(0), 0);
            for (int bit = 0; bit < 64; bit++) {
                int want = bit < 48 && bit >= 48 - prefix ? EntryTable.NONE : 0;
                check.due("prefix " + prefix + " bit " + bit, x.find(value ^ 1L << bit, 0, 0), want);
            }
        }
    }

    private static void maskLooksWhereItSays() {
        EntryTable x = new EntryTable(1, 2, 8);
        long mask = 0b10110010;
        long value = 0b10010000;
        x.match(0, value, mask);
        check.due("insert", x.insert(0), 0);
        for (long key = 0; key < 256; key++) {
            check.due("find " + key, x.find(key, 0, 0), (key & mask) == value ? 0 : EntryTable.NONE);
        }
    }

    private static void allKeysMustMatch() {
        EntryTable x = new EntryTable(3, 2 + 3, 4);
        x.match(0, 4, 4);
        x.match(1, 8, 2);
        x.match(2, 7, 0);
        check.due("insert", x.insert(0), 0);
        check.due("all", x.find(15, 11, 7), 0);
        check.due("not the first", x.find(11, 11, 7), EntryTable.NONE);
        check.due("not the second", x.find(15, 12, 7), EntryTable.NONE);
        check.due("not the third", x.find(15, 11, 6), EntryTable.NONE);
    }

    private static void onlyLowestBitsOfKeysCount() {
        for (int keys = 1; keys <= 3; keys++) {
            EntryTable x = new EntryTable(keys, 0, 3);
            for (int k = 0; k < 3; k++) {
                x.match(k, 7, 0);
            }
            check.due("insert", x.insert(0), 0);
            check.due("-1 thrice", x.find(-1, -1, -1), 0);
            check.due("high bits", x.find(7 + 8, 7 + (1L << 40), 7 + Long.MIN_VALUE), 0);
            check.due("other third", x.find(7, 7, 0), keys < 3 ? 0 : EntryTable.NONE);
            check.due("other second", x.find(7, 0, 7), keys < 2 ? 0 : EntryTable.NONE);
            check.due("other first", x.find(0, 7, 7), EntryTable.NONE);
        }
    }

    private static void longestPrefixThenPriorityThenAge() {
        EntryTable x = new EntryTable(2, 2 + 3, 4);
        add(x, 0, 0, Integer.MAX_VALUE);
        add(x, 15, 1, 5);
        add(x, 0, 1, 5);
        add(x, 0, 2, Integer.MIN_VALUE);
        add(x, 1, 1, Integer.MAX_VALUE);
        check.due("longest prefix", x.find(15, 8, 0), 3);
        x.remove(3);
        check.due("greatest priority", x.find(15, 8, 0), 4);
        x.remove(4);
        check.due("oldest", x.find(15, 8, 0), 1);
        x.remove(1);
        check.due("next oldest", x.find(15, 8, 0), 2);
        x.remove(2);
        check.due("shortest prefix", x.find(15, 8, 0), 0);
        x.remove(0);
        check.due("none left", x.find(15, 8, 0), EntryTable.NONE);
    }

    private static void add(EntryTable x, long mask, long prefix, int priority) {
        x.match(0, mask, mask);
        x.match(1, prefix == 0 ? 0 : 8, prefix);
        check.isTrue("an entry comes", x.insert(priority) >= 0);
    }
}
