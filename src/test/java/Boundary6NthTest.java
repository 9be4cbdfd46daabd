/** The boundary cases that promise 6 names. */
public final class Boundary6NthTest {
    private static final Check check = new Check();

    public static void main(String[] args) {
        theFirstIsZero();
        theLastIsOneLessThanThereAre();
        noneInAnEmptyTable();
        noneAtTheEnd();
        noneBelowZero();
        noneForTheLargest();
        theEndMovesAsEntriesGo();
        entriesOfOneMatchAndOthersAreOrdered();
        theOrderIsThatOfFind();
        nothingChanges();
        check.end();
    }

    private static EntryTable ofEntries(int entries) {
        EntryTable x = new EntryTable(1, 0, 8);
        for (int i = 0; i < entries; i++) {
            check.due("insert", x.insert(i), i);
        }
        return x;
    }

    private static void theFirstIsZero() {
        check.sentence("The entry that is k-th, from 0");
        for (int entries : new int[] {1, 2, 23, 24}) {
            check.due("nth(0) of " + entries, ofEntries(entries).nth(0), entries - 1);
        }
    }

    private static void theLastIsOneLessThanThereAre() {
        check.sentence("The entry that is k-th, from 0 (the last one)");
        for (int entries : new int[] {1, 2, 23, 24}) {
            check.due("nth of the last of " + entries, ofEntries(entries).nth(entries - 1), 0);
        }
    }

    private static void noneInAnEmptyTable() {
        check.sentence("NONE if there is none (no entry at all)");
        EntryTable x = ofEntries(0);
        for (int k : new int[] {0, 1, -1, 23, 24, Integer.MIN_VALUE, Integer.MAX_VALUE}) {
            check.due("nth(" + k + ")", x.nth(k), EntryTable.NONE);
        }
    }

    private static void noneAtTheEnd() {
        check.sentence("NONE if there is none (k too large)");
        for (int entries = 0; entries <= 24; entries++) {
            EntryTable x = ofEntries(entries);
            check.due("nth(" + entries + ") of " + entries, x.nth(entries), EntryTable.NONE);
            check.due("nth(" + (entries + 1) + ") of " + entries, x.nth(entries + 1), EntryTable.NONE);
        }
    }

    private static void noneBelowZero() {
        check.sentence("NONE if there is none (k below 0)");
        for (int entries : new int[] {1, 24}) {
            EntryTable x = ofEntries(entries);
            for (int k : new int[] {-1, -2, -24, Integer.MIN_VALUE}) {
                check.due("nth(" + k + ") of " + entries, x.nth(k), EntryTable.NONE);
            }
        }
    }

    private static void noneForTheLargest() {
        check.sentence("NONE if there is none (k far too large)");
        for (int entries : new int[] {1, 24}) {
            EntryTable x = ofEntries(entries);
            for (int k : new int[] {24, 25, 256, 1 << 30, Integer.MAX_VALUE}) {
                check.due("nth(" + k + ") of " + entries, x.nth(k), EntryTable.NONE);
            }
        }
    }

    private static void theEndMovesAsEntriesGo() {
        check.sentence("NONE if there is none (they went)");
        EntryTable x = ofEntries(24);
        for (int i = 0; i < 24; i++) {
            check.due("nth(" + (23 - i) + ")", x.nth(23 - i), i);
            x.remove(i);
            check.due("nth(" + (23 - i) + ") when it went", x.nth(23 - i), EntryTable.NONE);
        }
    }

    private static void entriesOfOneMatchAndOthersAreOrdered() {
        check.sentence("in the order in which they count (also if nothing matches both)");
        EntryTable x = new EntryTable(1, 1, 8);
        long[] prefixes = {1, 8, 0, 8, 1, 7};
        long[] values = {0, 255, 0, 0, 128, 2};
        int[] priorities = {5, 1, 9, 1, 5, 0};
        int[] order = {1, 3, 5, 0, 4, 2};
        for (int i = 0; i < values.length; i++) {
            x.match(0, values[i], prefixes[i]);
            check.due("insert", x.insert(priorities[i]), i);
        }
        for (int k = 0; k < order.length; k++) {
            check.due("nth(" + k + ")", x.nth(k), order[k]);
        }
    }

    private static void theOrderIsThatOfFind() {
        check.sentence("in the order in which they count (as find tells)");
        EntryTable x = new EntryTable(2, 1 + 6, 8);
        for (int i = 0; i < 24; i++) {
            x.match(0, 0, i * 7 % 9);
            x.match(1, 0, i);
            check.due("insert", x.insert(i * 5 % 3), i);
        }
        for (int i = 0; i < 24; i++) {
            int first = x.nth(0);
            check.due("find(0, 0, 0)", x.find(0, 0, 0), first);
            check.due("remove", x.remove(first), 23 - i);
        }
    }

    private static void nothingChanges() {
        check.sentence("The entry that is k-th; NONE if there is none (and nothing changes)");
        EntryTable x = ofEntries(3);
        String before = Seen.of(x, 4);
        for (int k : new int[] {0, 2, 3, -1, Integer.MIN_VALUE, Integer.MAX_VALUE}) {
            x.nth(k);
        }
        check.same("the table", Seen.of(x, 4), before);
    }
}
