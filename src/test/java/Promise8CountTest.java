public final class Promise8CountTest {
    private static final Check check = new Check();

    public static void main(String[] args) {
        tellsEach();
        onlyFindCountsAsNoneFound();
        refusesOthers();
        check.end();
    }

    private static void tellsEach() {
        EntryTable x = new EntryTable(2, 2 + 3 + 18, 17);
        x.insert(0);
        x.insert(1);
        x.insert(2);
        x.remove(1);
        x.match(0, 1, 1);
        x.insert(4);
        check.due("count(0)", x.count(0), 2);
        check.due("count(1)", x.count(1), 17);
        check.due("count(2)", x.count(2), 3);
        check.due("count(3)", x.count(3), 0);
        check.due("count(4)", x.count(4), 2);
        check.due("count(5)", x.count(5), 1);
        check.due("count(6)", x.count(6), 2);
    }

    private static void onlyFindCountsAsNoneFound() {
        EntryTable x = new EntryTable(1, 0, 8);
        x.insert(0);
        x.find(1, 0, 0);
        x.find(0, 0, 0);
        x.find(2, 0, 0);
        x.hits(7);
        x.remove(7);
        x.nth(7);
        check.due("count(3)", x.count(3), 2);
        x.remove(0);
        x.find(0, 0, 0);
        check.due("count(3)", x.count(3), 3);
    }

    private static void refusesOthers() {
        EntryTable x = new EntryTable(3, 0, 8);
        int[] wrong = {-1, 7, 8, Integer.MIN_VALUE, Integer.MAX_VALUE};
        for (int what : wrong) {
            check.due("count(" + what + ")", x.count(what), EntryTable.REFUSED);
        }
    }
}
