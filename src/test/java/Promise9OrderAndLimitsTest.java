public final class Promise9OrderAndLimitsTest {
    private static final Check check = new Check();

    public static void main(String[] args) {
        masksOfExactKeysAreNotLookedAt();
        aSecondPrefixIsNotLookedAt();
        numbersAreNotGivenAgain();
        failedInsertsUseNoNumber();
        check.end();
    }

    private static void masksOfExactKeysAreNotLookedAt() {
        EntryTable x = new EntryTable(1, 0, 8);
        x.match(0, 5, 0);
        check.due("insert(0)", x.insert(0), 0);
        long[] masks = {1, 5, 255, 256, -1, Long.MIN_VALUE, Long.MAX_VALUE};
        for (long mask : masks) {
            x.match(0, 5, mask);
            check.due("insert(0) with mask " + mask, x.insert(0), EntryTable.THERE);
        }
        x.match(0, 6, 1);
        check.due("insert(0) of 6", x.insert(0), 1);
        check.due("find(7, 0, 0)", x.find(7, 0, 0), EntryTable.NONE);
        check.due("find(6, 0, 0)", x.find(6, 0, 0), 1);
        check.due("nth(0)", x.nth(0), 0);
    }

    private static void aSecondPrefixIsNotLookedAt() {
        EntryTable x = new EntryTable(2, 4, 8);
        x.match(1, 5, 1);
        check.due("insert(0)", x.insert(0), 0);
        x.match(1, 5, 8);
        check.due("insert(0) of the same", x.insert(0), EntryTable.THERE);
        x.match(1, 6, 8);
        check.due("insert(0) of another", x.insert(0), 1);
        check.due("nth(0)", x.nth(0), 0);
        check.due("find(99, 5, 0)", x.find(99, 5, 0), 0);
    }

    private static void numbersAreNotGivenAgain() {
        EntryTable x = new EntryTable(1, 0, 8);
        for (int i = 0; i < 100; i++) {
            check.due("insert", x.insert(0), i);
            check.due("find", x.find(0, 0, 0), i);
            check.due("remove", x.remove(i), 0);
            check.due("remove again", x.remove(i), EntryTable.NONE);
        }
    }

    private static void failedInsertsUseNoNumber() {
        EntryTable x = new EntryTable(1, 0, 8);
        check.due("insert(0)", x.insert(0), 0);
        check.due("insert(0) again", x.insert(0), EntryTable.THERE);
        x.match(0, -1, 0);
        check.due("insert(0) wrong", x.insert(0), EntryTable.REFUSED);
        x.match(0, 1, 0);
        check.due("insert(0) right", x.insert(0), 1);
    }
}
