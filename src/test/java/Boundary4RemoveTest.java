/** The boundary cases that promise 4 names. */
public final class Boundary4RemoveTest {
    private static final Check check = new Check();

    public static void main(String[] args) {
        theLastOneLeavesNone();
        oneOf24Leaves23();
        firstMiddleAndLastOfTheOrderGo();
        noneInAnEmptyTable();
        noneForANumberNotYetGiven();
        noneForANumberBelowZero();
        noneForOneThatWent();
        noneChangesNothing();
        check.end();
    }

    /** The order in which they count is that of their numbers. */
    private static EntryTable ofEntries(int entries) {
        EntryTable x = new EntryTable(1, 2, 8);
        for (int i = 0; i < entries; i++) {
            check.due("insert", x.insert(-i), i);
        }
        return x;
    }

    private static void theLastOneLeavesNone() {
        check.sentence("An entry goes: how many there are then (0)");
        EntryTable x = ofEntries(1);
        check.due("remove(0)", x.remove(0), 0);
        check.due("count(2)", x.count(2), 0);
        check.due("nth(0)", x.nth(0), EntryTable.NONE);
        check.due("hits(0)", x.hits(0), EntryTable.NONE);
        check.due("find(0, 0, 0)", x.find(0, 0, 0), EntryTable.NONE);
    }

    private static void oneOf24Leaves23() {
        check.sentence("An entry goes: how many there are then (23)");
        for (int gone = 0; gone < 24; gone++) {
            EntryTable x = ofEntries(24);
            check.due("remove(" + gone + ")", x.remove(gone), 23);
            check.due("count(2)", x.count(2), 23);
            for (int entry = 0; entry < 24; entry++) {
                check.due("hits(" + entry + ")", x.hits(entry), entry == gone ? EntryTable.NONE : 0);
            }
        }
    }

    private static void firstMiddleAndLastOfTheOrderGo() {
        check.sentence("An entry goes");
        EntryTable x = ofEntries(24);
        int[] gone = {0, 23, 12, 1, 22};
        for (int i = 0; i < gone.length; i++) {
            check.due("remove(" + gone[i] + ")", x.remove(gone[i]), 23 - i);
        }
        for (int k = 0; k < 19; k++) {
            check.due("nth(" + k + ")", x.nth(k), k < 10 ? k + 2 : k + 3);
        }
        check.due("nth(19)", x.nth(19), EntryTable.NONE);
        check.due("find(0, 0, 0)", x.find(0, 0, 0), 2);
    }

    private static void noneInAnEmptyTable() {
        check.sentence("NONE if there is none (no entry at all)");
        EntryTable x = ofEntries(0);
        for (int entry : new int[] {0, 1, -1, 23, 24, Integer.MIN_VALUE, Integer.MAX_VALUE}) {
            check.due("remove(" + entry + ")", x.remove(entry), EntryTable.NONE);
        }
        check.due("count(2)", x.count(2), 0);
    }

    private static void noneForANumberNotYetGiven() {
        check.sentence("NONE if there is none (a number not yet given)");
        for (int entries : new int[] {1, 5, 23, 24}) {
            EntryTable x = ofEntries(entries);
            for (int entry : new int[] {entries, entries + 1, 24, 25, 72, Integer.MAX_VALUE}) {
                check.due("remove(" + entry + ")", x.remove(entry), EntryTable.NONE);
            }
            check.due("count(2)", x.count(2), entries);
        }
    }

    private static void noneForANumberBelowZero() {
        check.sentence("NONE if there is none (a number below 0)");
        EntryTable x = ofEntries(24);
        for (int entry : new int[] {-1, -2, -3, -4, -24, Integer.MIN_VALUE}) {
            check.due("remove(" + entry + ")", x.remove(entry), EntryTable.NONE);
        }
        check.due("count(2)", x.count(2), 24);
    }

    private static void noneForOneThatWent() {
        check.sentence("NONE if there is none (one that went)");
        EntryTable x = ofEntries(3);
        for (int entry = 0; entry < 3; entry++) {
            check.due("remove(" + entry + ")", x.remove(entry), 2 - entry);
            check.due("remove(" + entry + ") again", x.remove(entry), EntryTable.NONE);
        }
        check.due("insert", x.insert(0), 3);
        for (int entry = 0; entry < 3; entry++) {
            check.due("remove(" + entry + ") again", x.remove(entry), EntryTable.NONE);
        }
        check.due("remove(3)", x.remove(3), 0);
    }

    private static void noneChangesNothing() {
        check.sentence("NONE if there is none (and nothing changes)");
        EntryTable x = ofEntries(5);
        x.remove(2);
        x.find(0, 0, 0);
        x.match(0, 9, 9);
        String before = Seen.of(x, 7);
        for (int entry : new int[] {-1, 2, 5, 6, Integer.MIN_VALUE, Integer.MAX_VALUE}) {
            check.due("remove(" + entry + ")", x.remove(entry), EntryTable.NONE);
        }
        check.same("the table", Seen.of(x, 7), before);
        check.due("insert of what was told", x.insert(1), 5);
        check.due("find(9, 0, 0)", x.find(9, 0, 0), 5);
        check.due("find(1, 0, 0)", x.find(1, 0, 0), 0);
    }
}
