public final class Promise7HitsTest {
    private static final Check check = new Check();

    public static void main(String[] args) {
        countsOnlyTheEntryThatWasFound();
        noneForOthers();
        aNewEntryBeginsAtZero();
        check.end();
    }

    private static void countsOnlyTheEntryThatWasFound() {
        EntryTable x = new EntryTable(1, 1, 8);
        x.insert(0);
        x.match(0, 128, 1);
        x.insert(0);
        check.due("hits(0)", x.hits(0), 0);
        for (int i = 0; i < 5; i++) {
            x.find(200, 0, 0);
            x.hits(0);
            x.nth(1);
        }
        x.find(1, 0, 0);
        check.due("hits(0)", x.hits(0), 1);
        check.due("hits(1)", x.hits(1), 5);
        x.match(0, 192, 2);
        x.insert(0);
        x.find(200, 0, 0);
        check.due("hits(1)", x.hits(1), 5);
        check.due("hits(2)", x.hits(2), 1);
        x.remove(2);
        x.find(200, 0, 0);
        check.due("hits(1)", x.hits(1), 6);
        check.due("hits(0)", x.hits(0), 1);
    }

    private static void noneForOthers() {
        EntryTable x = new EntryTable(1, 0, 8);
        x.insert(0);
        int[] wrong = {-1, 1, 24, Integer.MIN_VALUE, Integer.MAX_VALUE};
        for (int entry : wrong) {
            check.due("hits(" + entry + ")", x.hits(entry), EntryTable.NONE);
        }
        x.remove(0);
        check.due("hits(0)", x.hits(0), EntryTable.NONE);
        check.due("count(3)", x.count(3), 0);
    }

    private static void aNewEntryBeginsAtZero() {
        EntryTable x = new EntryTable(1, 0, 8);
        x.insert(0);
        x.find(0, 0, 0);
        x.find(0, 0, 0);
        x.remove(0);
        x.insert(0);
        check.due("hits(1)", x.hits(1), 0);
        x.find(0, 0, 0);
        check.due("hits(1)", x.hits(1), 1);
    }
}
