public final class Promise4RemoveTest {
    private static final Check check = new Check();

    public static void main(String[] args) {
        answersHowManyThereAre();
        answersNoneForOthers();
        whatWentNoLongerCounts();
        theMadeUpEntryStays();
        check.end();
    }

    private static EntryTable ofFive() {
        EntryTable x = new EntryTable(1, 2, 8);
        for (int i = 0; i < 5; i++) {
            x.insert(i * 10);
        }
        return x;
    }

    private static void answersHowManyThereAre() {
        EntryTable x = ofFive();
        int[] gone = {2, 0, 4, 3, 1};
        for (int i = 0; i < 5; i++) {
            check.due("remove(" + gone[i] + ")", x.remove(gone[i]), 4 - i);
            check.due("count(2)", x.count(2), 4 - i);
            check.due("remove again", x.remove(gone[i]), EntryTable.NONE);
        }
        check.due("nth(0)", x.nth(0), EntryTable.NONE);
    }

    private static void answersNoneForOthers() {
        EntryTable x = ofFive();
        int[] wrong = {-1, 5, 6, 24, Integer.MIN_VALUE, Integer.MAX_VALUE};
        for (int entry : wrong) {
            check.due("remove(" + entry + ")", x.remove(entry), EntryTable.NONE);
        }
        check.due("count(2)", x.count(2), 5);
        check.due("count(3)", x.count(3), 0);
    }

    private static void whatWentNoLongerCounts() {
        EntryTable x = ofFive();
        check.due("find", x.find(1, 0, 0), 4);
        x.remove(4);
        check.due("find", x.find(1, 0, 0), 3);
        x.remove(1);
        check.due("nth(0)", x.nth(0), 3);
        check.due("nth(1)", x.nth(1), 2);
        check.due("nth(2)", x.nth(2), 0);
        check.due("nth(3)", x.nth(3), EntryTable.NONE);
        check.due("hits(4)", x.hits(4), EntryTable.NONE);
        check.due("hits(3)", x.hits(3), 1);
    }

    private static void theMadeUpEntryStays() {
        EntryTable x = ofFive();
        x.match(0, 3, 3);
        x.remove(0);
        check.due("insert(0)", x.insert(0), 5);
        x.remove(4);
        x.remove(3);
        x.remove(2);
        x.remove(1);
        check.due("find(3, 0, 0)", x.find(3, 0, 0), 5);
        check.due("find(1, 0, 0)", x.find(1, 0, 0), EntryTable.NONE);
    }
}
