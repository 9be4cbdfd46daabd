public final class Promise1NewObjectTest {
    private static final Check check = new Check();

    public static void main(String[] args) {
        keysAndWidthAreClamped();
        kindsAreDigitsInBaseThree();
        aNewTableIsEmpty();
        check.end();
    }

    private static void keysAndWidthAreClamped() {
        int[] told = {Integer.MIN_VALUE, -1, 0, 1, 2, 3, 4, 47, 48, 49, Integer.MAX_VALUE};
        int[] keys = {1, 1, 1, 1, 2, 3, 3, 3, 3, 3, 3};
        int[] width = {1, 1, 1, 1, 2, 3, 4, 47, 48, 48, 48};
        for (int i = 0; i < told.length; i++) {
            EntryTable x = new EntryTable(told[i], 0, told[i]);
            check.due("K of " + told[i], x.count(0), keys[i]);
            check.due("W of " + told[i], x.count(1), width[i]);
        }
    }

    private static void kindsAreDigitsInBaseThree() {
        kinds(0, 0, 0, 0);
        kinds(1, 1, 0, 0);
        kinds(2, 2, 0, 0);
        kinds(3, 0, 1, 0);
        kinds(4, 1, 0, 0);
        kinds(5, 2, 1, 0);
        kinds(7, 1, 2, 0);
        kinds(9, 0, 0, 1);
        kinds(10, 1, 0, 0);
        kinds(12, 0, 1, 0);
        kinds(13, 1, 0, 0);
        kinds(14, 2, 1, 0);
        kinds(16, 1, 2, 0);
        kinds(17, 2, 2, 1);
        kinds(21, 0, 1, 2);
        kinds(26, 2, 2, 2);
        kinds(27, 0, 0, 0);
        kinds(27 + 15, 0, 2, 1);
        kinds(Integer.MAX_VALUE, 1, 0, 0);
        kinds(-1, 0, 0, 0);
        kinds(-5, 0, 0, 0);
        kinds(Integer.MIN_VALUE, 0, 0, 0);
    }

    private static void kinds(int told, int first, int second, int third) {
        for (int keys = 1; keys <= 3; keys++) {
            EntryTable x = new EntryTable(keys, told, 8);
            String of = " of kinds " + told + " with " + keys + " keys";
            check.due("kind of key 0" + of, x.count(4), first);
            check.due("kind of key 1" + of, x.count(5), second);
            check.due("kind of key 2" + of, x.count(6), third);
        }
    }

    private static void aNewTableIsEmpty() {
        EntryTable x = new EntryTable(2, 5, 8);
        check.due("count(2)", x.count(2), 0);
        check.due("count(3)", x.count(3), 0);
        check.due("nth(0)", x.nth(0), EntryTable.NONE);
        check.due("hits(0)", x.hits(0), EntryTable.NONE);
        check.due("remove(0)", x.remove(0), EntryTable.NONE);
        check.due("find(0, 0, 0)", x.find(0, 0, 0), EntryTable.NONE);
    }
}
