public final class Promise2MatchTest {
    private static final Check check = new Check();

    public static void main(String[] args) {
        answersTheKey();
        refusesOtherKeys();
        tellsInPlaceOfWhatWasTold();
        keysBeyondKDoNotMatter();
        allIsZeroAtFirst();
        check.end();
    }

    private static void answersTheKey() {
        EntryTable x = new EntryTable(1, 0, 4);
        for (int k = 0; k < 3; k++) {
            check.due("match(" + k + ", 1, 1)", x.match(k, 1, 1), k);
            check.due("match of wrong numbers", x.match(k, Long.MIN_VALUE, Long.MAX_VALUE), k);
        }
    }

    private static void refusesOtherKeys() {
        EntryTable x = new EntryTable(3, 0, 4);
        int[] wrong = {-1, 3, 4, Integer.MIN_VALUE, Integer.MAX_VALUE};
        for (int k : wrong) {
            check.due("match(" + k + ", 99, 0)", x.match(k, 99, 0), EntryTable.REFUSED);
        }
        check.due("insert after refused keys", x.insert(0), 0);
        check.due("find(0, 0, 0)", x.find(0, 0, 0), 0);
    }

    private static void tellsInPlaceOfWhatWasTold() {
        EntryTable x = new EntryTable(2, 2 + 3, 4);
        x.match(0, 9, 15);
        x.match(1, 15, 4);
        x.match(0, 2, 3);
        x.match(1, 8, 1);
        check.due("insert(0)", x.insert(0), 0);
        check.due("find(9, 15, 0)", x.find(9, 15, 0), EntryTable.NONE);
        check.due("find(14, 9, 0)", x.find(14, 9, 0), 0);
        x.match(0, 99, 99);
        check.due("insert of a wrong key", x.insert(0), EntryTable.REFUSED);
        x.match(0, 0, 0);
        check.due("insert of the key mended", x.insert(0), 1);
    }

    private static void keysBeyondKDoNotMatter() {
        EntryTable x = new EntryTable(1, 2 + 3 + 18, 4);
        x.match(1, -1, 99);
        x.match(2, 1L << 50, -1);
        check.due("insert(0)", x.insert(0), 0);
        x.match(1, 8, 1);
        x.match(2, 1, 1);
        check.due("insert(0) of the same", x.insert(0), EntryTable.THERE);
        check.due("insert(1)", x.insert(1), 1);
        x.match(1, 8, 4);
        check.due("insert(-1)", x.insert(-1), 2);
        check.due("nth(0)", x.nth(0), 1);
        check.due("nth(1)", x.nth(1), 0);
        check.due("nth(2)", x.nth(2), 2);
        check.due("find(3, 5, 7)", x.find(3, 5, 7), 1);
    }

    private static void allIsZeroAtFirst() {
        EntryTable x = new EntryTable(3, 1 + 6, 4);
        check.due("insert(0)", x.insert(0), 0);
        check.due("find(9, 9, 0)", x.find(9, 9, 0), 0);
        check.due("find(9, 9, 1)", x.find(9, 9, 1), EntryTable.NONE);
    }
}
