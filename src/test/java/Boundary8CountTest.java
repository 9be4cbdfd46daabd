/** The boundary cases that promise 8 names. */
public final class Boundary8CountTest {
    private static final Check check = new Check();

    public static void main(String[] args) {
        keysAtTheEnds();
        widthAtTheEnds();
        noEntries();
        allEntries();
        failedCallsCountNoEntry();
        noneFoundInAnEmptyTable();
        noneFoundAmongEntries();
        noneFoundByOtherCallsDoesNotCount();
        kindsOfTheThreeKeys();
        refusesBelowZero();
        refusesAboveSix();
        nothingChanges();
        check.end();
    }

    private static void keysAtTheEnds() {
        check.sentence("What 0: K");
        for (int keys = 1; keys <= 3; keys++) {
            check.due("count(0)", new EntryTable(keys, 26, 8).count(0), keys);
        }
    }

    private static void widthAtTheEnds() {
        check.sentence("1: W");
        for (int width = 1; width <= 48; width++) {
            check.due("count(1)", new EntryTable(2, 26, width).count(1), width);
        }
    }

    private static void noEntries() {
        check.sentence("2: entries (0)");
        EntryTable x = new EntryTable(1, 0, 8);
        check.due("count(2)", x.count(2), 0);
        x.match(0, 1, 0);
        check.due("count(2) of what is only told", x.count(2), 0);
        x.insert(0);
        check.due("count(2)", x.count(2), 1);
        x.remove(0);
        check.due("count(2)", x.count(2), 0);
    }

    private static void allEntries() {
        check.sentence("2: entries (24)");
        EntryTable x = new EntryTable(1, 0, 8);
        for (int i = 0; i < 24; i++) {
            x.insert(i);
            check.due("count(2)", x.count(2), i + 1);
        }
        for (int i = 0; i < 24; i++) {
            x.remove(i);
            x.insert(100 + i);
            check.due("count(2) of those there are", x.count(2), 24);
        }
    }

    private static void failedCallsCountNoEntry() {
        check.sentence("2: entries (failed calls change none)");
        EntryTable x = new EntryTable(1, 0, 8);
        x.insert(0);
        x.insert(0);
        x.match(0, -1, 0);
        x.insert(1);
        x.remove(1);
        x.remove(-1);
        check.due("count(2)", x.count(2), 1);
    }

    private static void noneFoundInAnEmptyTable() {
        check.sentence("3: how often none was found (no entry at all)");
        EntryTable x = new EntryTable(1, 0, 8);
        check.due("count(3)", x.count(3), 0);
        for (int i = 1; i <= 255; i++) {
            x.find(i, i, i);
            check.due("count(3)", x.count(3), i);
        }
    }

    private static void noneFoundAmongEntries() {
        check.sentence("3: how often none was found");
        EntryTable x = new EntryTable(1, 0, 8);
        for (int i = 0; i < 24; i++) {
            x.match(0, i, 0);
            x.insert(0);
        }
        for (int i = 0; i < 24; i++) {
            x.find(i, 0, 0);
            check.due("count(3) when found", x.count(3), i);
            x.find(i + 24, 0, 0);
            check.due("count(3) when not found", x.count(3), i + 1);
        }
    }

    private static void noneFoundByOtherCallsDoesNotCount() {
        check.sentence("3: how often none was found (by find)");
        EntryTable x = new EntryTable(1, 0, 8);
        x.nth(0);
        x.hits(0);
        x.remove(0);
        x.count(7);
        x.match(3, 0, 0);
        x.match(0, -1, 0);
        x.insert(0);
        check.due("count(3)", x.count(3), 0);
    }

    private static void kindsOfTheThreeKeys() {
        check.sentence("4, 5, 6: the kinds of keys 0, 1, 2");
        for (int keys = 1; keys <= 3; keys++) {
            EntryTable x = new EntryTable(keys, 0 + 3 + 18, 8);
            check.due("count(4)", x.count(4), 0);
            check.due("count(5)", x.count(5), 1);
            check.due("count(6)", x.count(6), 2);
        }
    }

    private static void refusesBelowZero() {
        check.sentence("REFUSED for others (below 0)");
        EntryTable x = new EntryTable(3, 26, 8);
        for (int what : new int[] {-1, -2, -4, -7, Integer.MIN_VALUE}) {
            check.due("count(" + what + ")", x.count(what), EntryTable.REFUSED);
        }
    }

    private static void refusesAboveSix() {
        check.sentence("REFUSED for others (above 6)");
        EntryTable x = new EntryTable(3, 26, 8);
        for (int what : new int[] {7, 8, 9, 256, 1 << 16, Integer.MAX_VALUE}) {
            check.due("count(" + what + ")", x.count(what), EntryTable.REFUSED);
        }
    }

    private static void nothingChanges() {
        check.sentence("What 0 to 6; REFUSED for others (and nothing changes)");
        EntryTable x = new EntryTable(2, 2 + 3, 8);
        x.insert(0);
        x.find(0, 0, 0);
        x.match(0, 1, 1);
        String before = Seen.of(x, 3);
        for (int what = -2; what < 9; what++) {
            x.count(what);
        }
        check.same("the table", Seen.of(x, 3), before);
        check.due("insert of what was told", x.insert(0), 1);
        x.remove(0);
        check.due("find(1, 0, 0)", x.find(1, 0, 0), 1);
        check.due("find(0, 0, 0)", x.find(0, 0, 0), EntryTable.NONE);
    }
}
