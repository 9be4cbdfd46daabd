/** The boundary cases that promise 2 names. */
public final class Boundary2MatchTest {
    private static final Check check = new Check();

    public static void main(String[] args) {
        answersTheFirstAndLastKey();
        takesKeysBeyondK();
        keysBeyondKDoNotMatterToFind();
        keysBeyondKDoNotMatterToInsert();
        keysBeyondKDoNotMatterToTheOrder();
        valuesComeInPlaceOfOthers();
        prefixesAndMasksComeInPlaceOfOthers();
        wrongNumbersComeInPlaceOfGoodOnes();
        valuesAreZeroAtFirst();
        prefixesAndMasksAreZeroAtFirst();
        refusesAnotherKey();
        aRefusedMatchTellsNothing();
        check.end();
    }

    private static void answersTheFirstAndLastKey() {
        check.sentence("Key k (0 to 2): k");
        EntryTable x = new EntryTable(3, 1 + 6, 8);
        long[] told = {0, 1, -1, 255, 256, Long.MIN_VALUE, Long.MAX_VALUE};
        for (long value : told) {
            for (int k = 0; k <= 2; k++) {
                check.due("match(" + k + ", " + value + ", " + -value + ")", x.match(k, value, -value), k);
            }
        }
    }

    private static void takesKeysBeyondK() {
        check.sentence("also those beyond K");
        for (int keys = 1; keys <= 2; keys++) {
            EntryTable x = new EntryTable(keys, 13, 8);
            check.due("match(1, -1, -1) of " + keys + " keys", x.match(1, -1, -1), 1);
            check.due("match(2, -1, -1) of " + keys + " keys", x.match(2, -1, -1), 2);
            check.due("match(3, 0, 0) of " + keys + " keys", x.match(3, 0, 0), EntryTable.REFUSED);
        }
    }

    private static void keysBeyondKDoNotMatterToFind() {
        check.sentence("those beyond K, which do not matter (to find)");
        for (int kinds = 0; kinds < 27; kinds++) {
            for (int keys = 1; keys <= 2; keys++) {
                EntryTable x = new EntryTable(keys, kinds, 8);
                for (int k = keys; k < 3; k++) {
                    x.match(k, 255, x.count(4 + k) == 1 ? 8 : 255);
                }
                check.due("insert", x.insert(0), 0);
                check.due("find(0, 0, 0) of kinds " + kinds, x.find(0, 0, 0), 0);
            }
        }
    }

    private static void keysBeyondKDoNotMatterToInsert() {
        check.sentence("those beyond K, which do not matter (to insert)");
        long[] wrong = {-1, 256, Long.MIN_VALUE, Long.MAX_VALUE};
        for (int kinds = 0; kinds < 27; kinds++) {
            for (int keys = 1; keys <= 2; keys++) {
                EntryTable x = new EntryTable(keys, kinds, 8);
                check.due("insert", x.insert(0), 0);
                for (int i = 1; i <= wrong.length; i++) {
                    for (int k = keys; k < 3; k++) {
                        x.match(k, wrong[i - 1], wrong[i - 1]);
                    }
                    check.due("insert of the same with kinds " + kinds, x.insert(0), EntryTable.THERE);
                    check.due("insert of another with kinds " + kinds, x.insert(i), i);
                }
            }
        }
    }

    private static void keysBeyondKDoNotMatterToTheOrder() {
        check.sentence("those beyond K, which do not matter (to the order)");
        for (int kinds : new int[] {3, 9, 2 + 3, 2 + 9}) {
            EntryTable x = new EntryTable(1, kinds, 8);
            int[] prefixes = {2, 0, 8, 1};
            for (int i = 0; i < prefixes.length; i++) {
                x.match(1, 0, prefixes[i]);
                x.match(2, 0, prefixes[i]);
                check.due("insert", x.insert(-i), i);
            }
            for (int k = 0; k < prefixes.length; k++) {
                check.due("nth(" + k + ") of kinds " + kinds, x.nth(k), k);
            }
            check.due("find(0, 0, 0)", x.find(0, 0, 0), 0);
        }
    }

    private static void valuesComeInPlaceOfOthers() {
        check.sentence("in place of what was told of it: its value");
        for (int k = 0; k < 3; k++) {
            EntryTable x = new EntryTable(3, 0, 8);
            x.match(k, 3, 0);
            x.match(k, 12, 0);
            check.due("insert", x.insert(0), 0);
            check.due("find of 15 in key " + k, findIn(x, k, 15), EntryTable.NONE);
            check.due("find of 3 in key " + k, findIn(x, k, 3), EntryTable.NONE);
            check.due("find of 12 in key " + k, findIn(x, k, 12), 0);
        }
    }

    private static void prefixesAndMasksComeInPlaceOfOthers() {
        check.sentence("in place of what was told of it: its prefix or mask");
        for (int k = 0; k < 3; k++) {
            EntryTable masked = new EntryTable(3, 26, 8);
            masked.match(k, 0, 255);
            masked.match(k, 0, 4);
            check.due("insert", masked.insert(0), 0);
            check.due("find of 251 in key " + k, findIn(masked, k, 251), 0);
            check.due("find of 4 in key " + k, findIn(masked, k, 4), EntryTable.NONE);
            EntryTable prefixed = new EntryTable(3, new int[] {1, 3, 9}[k], 8);
            prefixed.match(k, 0, 8);
            prefixed.match(k, 0, 1);
            check.due("insert", prefixed.insert(0), 0);
            check.due("find of 127 in key " + k, findIn(prefixed, k, 127), 0);
            check.due("find of 128 in key " + k, findIn(prefixed, k, 128), EntryTable.NONE);
        }
    }

    private static void wrongNumbersComeInPlaceOfGoodOnes() {
        check.sentence("in place of what was told of it (wrong ones too)");
        EntryTable x = new EntryTable(1, 2, 8);
        x.match(0, 1, 1);
        check.due("match(0, -1, -1)", x.match(0, -1, -1), 0);
        check.due("insert", x.insert(0), EntryTable.REFUSED);
        check.due("match(0, 2, 2)", x.match(0, 2, 2), 0);
        check.due("insert", x.insert(0), 0);
        check.due("find(2, 0, 0)", x.find(2, 0, 0), 0);
    }

    private static void valuesAreZeroAtFirst() {
        check.sentence("(both 0 at first): its value");
        for (int width : new int[] {1, 48}) {
            EntryTable x = new EntryTable(3, 0, width);
            check.due("insert of what was not told", x.insert(0), 0);
            check.due("find(0, 0, 0)", x.find(0, 0, 0), 0);
            check.due("find(1, 0, 0)", x.find(1, 0, 0), EntryTable.NONE);
            check.due("find(0, 1, 0)", x.find(0, 1, 0), EntryTable.NONE);
            check.due("find(0, 0, 1)", x.find(0, 0, 1), EntryTable.NONE);
        }
    }

    private static void prefixesAndMasksAreZeroAtFirst() {
        check.sentence("(both 0 at first): its prefix or mask");
        for (int kinds : new int[] {1 + 6 + 18, 2 + 3 + 18, 2 + 6 + 9}) {
            EntryTable x = new EntryTable(3, kinds, 8);
            check.due("insert of what was not told", x.insert(0), 0);
            check.due("find(-1, -1, -1)", x.find(-1, -1, -1), 0);
            check.due("find(0, 0, 0)", x.find(0, 0, 0), 0);
            for (int k = 0; k < 3; k++) {
                x.match(k, 0, 0);
            }
            check.due("insert of zeros", x.insert(0), EntryTable.THERE);
        }
    }

    private static void refusesAnotherKey() {
        check.sentence("REFUSED for another k");
        int[] others = {-1, -2, -3, 3, 4, 255, 256, Integer.MIN_VALUE, Integer.MAX_VALUE};
        for (int keys = 1; keys <= 3; keys++) {
            EntryTable x = new EntryTable(keys, 0, 8);
            for (int k : others) {
                check.due("match(" + k + ", 0, 0)", x.match(k, 0, 0), EntryTable.REFUSED);
            }
        }
    }

    private static void aRefusedMatchTellsNothing() {
        check.sentence("REFUSED for another k (and nothing is told)");
        EntryTable x = new EntryTable(3, 26, 8);
        for (int k = 0; k < 3; k++) {
            x.match(k, 1 << k, 1 << k);
        }
        String before = Seen.of(x, 2);
        for (int k : new int[] {-1, 3, 4, Integer.MIN_VALUE, Integer.MAX_VALUE}) {
            x.match(k, 64, 64);
        }
        check.same("the table", Seen.of(x, 2), before);
        check.due("insert", x.insert(0), 0);
        check.due("find(1, 2, 4)", x.find(1, 2, 4), 0);
        check.due("find(0, 2, 4)", x.find(0, 2, 4), EntryTable.NONE);
        check.due("find(1, 0, 4)", x.find(1, 0, 4), EntryTable.NONE);
        check.due("find(1, 2, 0)", x.find(1, 2, 0), EntryTable.NONE);
    }

    private static int findIn(EntryTable x, int k, long key) {
        return x.find(k == 0 ? key : 0, k == 1 ? key : 0, k == 2 ? key : 0);
    }
}
