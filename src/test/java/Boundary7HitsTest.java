/** The boundary cases that promise 7 names. */
public final class Boundary7HitsTest {
    private static final Check check = new Check();

    public static void main(String[] args) {
        aNewEntryHasNone();
        theFirstFindIsOne();
        manyFinds();
        onlyTheOneThatCountsIsFound();
        nothingIsFoundByOtherCalls();
        noneInAnEmptyTable();
        noneForANumberNotYetGiven();
        noneForANumberBelowZero();
        noneForOneThatWent();
        hitsAreNotInherited();
        othersKeepTheirs();
        check.end();
    }

    private static void aNewEntryHasNone() {
        check.sentence("How often an entry was found by find (never)");
        EntryTable x = new EntryTable(1, 0, 8);
        x.find(0, 0, 0);
        for (int i = 0; i < 24; i++) {
            x.insert(i);
            check.due("hits(" + i + ")", x.hits(i), 0);
        }
    }

    private static void theFirstFindIsOne() {
        check.sentence("How often an entry was found by find (once)");
        EntryTable x = new EntryTable(1, 0, 8);
        for (int i = 0; i < 24; i++) {
            x.match(0, i, 0);
            x.insert(0);
        }
        for (int i = 0; i < 24; i++) {
            check.due("find", x.find(i, 0, 0), i);
            check.due("hits(" + i + ")", x.hits(i), 1);
        }
    }

    private static void manyFinds() {
        check.sentence("How often an entry was found by find (as often as calls allow)");
        for (int finds : new int[] {127, 128, 255, 256, 257, 510}) {
            EntryTable x = new EntryTable(1, 0, 8);
            x.insert(0);
            for (int i = 0; i < finds; i++) {
                x.find(0, 0, 0);
            }
            check.due("hits(0) after " + finds, x.hits(0), finds);
        }
    }

    private static void onlyTheOneThatCountsIsFound() {
        check.sentence("was found by find (not: would match)");
        EntryTable x = new EntryTable(1, 1, 8);
        x.insert(5);
        x.insert(9);
        x.match(0, 0, 8);
        x.insert(0);
        x.find(0, 0, 0);
        x.find(1, 0, 0);
        x.find(1, 0, 0);
        check.due("hits(0)", x.hits(0), 0);
        check.due("hits(1)", x.hits(1), 2);
        check.due("hits(2)", x.hits(2), 1);
    }

    private static void nothingIsFoundByOtherCalls() {
        check.sentence("was found by find (not by other calls)");
        EntryTable x = new EntryTable(1, 0, 8);
        x.insert(0);
        x.insert(0);
        x.nth(0);
        x.hits(0);
        x.match(0, 0, 0);
        x.remove(1);
        x.count(2);
        x.find(1, 0, 0);
        check.due("hits(0)", x.hits(0), 0);
        check.due("hits(0) again", x.hits(0), 0);
    }

    private static void noneInAnEmptyTable() {
        check.sentence("NONE if there is none (no entry at all)");
        EntryTable x = new EntryTable(1, 0, 8);
        for (int entry : new int[] {0, 1, -1, 23, 24, Integer.MIN_VALUE, Integer.MAX_VALUE}) {
            check.due("hits(" + entry + ")", x.hits(entry), EntryTable.NONE);
        }
    }

    private static void noneForANumberNotYetGiven() {
        check.sentence("NONE if there is none (a number not yet given)");
        EntryTable x = new EntryTable(1, 0, 8);
        for (int i = 0; i < 24; i++) {
            check.due("hits(" + i + ")", x.hits(i), EntryTable.NONE);
            x.insert(i);
        }
        for (int entry : new int[] {24, 25, 72, Integer.MAX_VALUE}) {
            check.due("hits(" + entry + ")", x.hits(entry), EntryTable.NONE);
        }
    }

    private static void noneForANumberBelowZero() {
        check.sentence("NONE if there is none (a number below 0)");
        EntryTable x = new EntryTable(1, 0, 8);
        x.insert(0);
        for (int entry : new int[] {-1, -2, -24, Integer.MIN_VALUE}) {
            check.due("hits(" + entry + ")", x.hits(entry), EntryTable.NONE);
        }
    }

    private static void noneForOneThatWent() {
        check.sentence("NONE if there is none (it went)");
        EntryTable x = new EntryTable(1, 0, 8);
        x.insert(0);
        x.find(0, 0, 0);
        x.remove(0);
        check.due("hits(0)", x.hits(0), EntryTable.NONE);
        x.insert(0);
        check.due("hits(0)", x.hits(0), EntryTable.NONE);
    }

    private static void hitsAreNotInherited() {
        check.sentence("How often an entry was found by find (not the one that went)");
        EntryTable x = new EntryTable(1, 0, 8);
        for (int i = 0; i < 24; i++) {
            x.match(0, i, 0);
            x.insert(0);
            x.find(i, 0, 0);
        }
        for (int i = 0; i < 24; i++) {
            x.remove(i);
            x.match(0, i, 0);
            check.due("insert", x.insert(0), 24 + i);
            check.due("hits(" + (24 + i) + ")", x.hits(24 + i), 0);
        }
    }

    private static void othersKeepTheirs() {
        check.sentence("How often an entry was found by find (others come and go)");
        EntryTable x = new EntryTable(1, 0, 8);
        for (int i = 0; i < 5; i++) {
            x.match(0, i, 0);
            x.insert(0);
            for (int find = 0; find <= i; find++) {
                x.find(i, 0, 0);
            }
        }
        x.remove(0);
        x.remove(3);
        x.match(0, 9, 0);
        x.insert(7);
        check.due("hits(1)", x.hits(1), 2);
        check.due("hits(2)", x.hits(2), 3);
        check.due("hits(4)", x.hits(4), 5);
        check.due("hits(5)", x.hits(5), 0);
    }
}
