/** The boundary cases that promise 5 names. */
public final class Boundary5FindTest {
    private static final Check check = new Check();

    public static void main(String[] args) {
        bitsAboveTheLowestWAreNotLookedAt();
        bitsAboveThatAreOfNoPrefix();
        keysBelowZeroHaveLowestBits();
        theHighestOfTheWBitsIsLookedAt();
        keysThatAreNotThereAreNotLookedAt();
        theLastKeyThatIsThereIsLookedAt();
        noneInAnEmptyTable();
        noneIfNoneMatches();
        noneWhenItWent();
        noneOf24();
        theEntryMadeUpStays();
        check.end();
    }

    private static int findIn(EntryTable x, int k, long key, long others) {
        return x.find(k == 0 ? key : others, k == 1 ? key : others, k == 2 ? key : others);
    }

    private static void bitsAboveTheLowestWAreNotLookedAt() {
        check.sentence("keys (their lowest W bits)");
        for (int width : new int[] {1, 2, 31, 32, 33, 47, 48}) {
            for (int k = 0; k < 3; k++) {
                EntryTable x = new EntryTable(3, 0, width);
                check.due("insert", x.insert(0), 0);
                for (int bit = width; bit < 64; bit++) {
                    String of = "find of bit " + bit + " in key " + k + " of " + width + " bits";
                    check.due(of, findIn(x, k, 1L << bit, 0), 0);
                }
                check.due("find of all above", findIn(x, k, -1L << width, 0), 0);
            }
        }
    }

    private static void bitsAboveThatAreOfNoPrefix() {
        check.sentence("keys (their lowest W bits): a prefix is of these");
        for (int width : new int[] {1, 2, 31, 32, 33, 47, 48}) {
            EntryTable x = new EntryTable(1, 1, width);
            x.match(0, 1L << width - 1, 1);
            check.due("insert", x.insert(0), 0);
            check.due("find of bit W - 1 of " + width, x.find(1L << width - 1, 0, 0), 0);
            check.due("find of bits W - 1 and W of " + width, x.find(3L << width - 1, 0, 0), 0);
            check.due("find of bit W of " + width, x.find(1L << width, 0, 0), EntryTable.NONE);
            check.due("find of bit 63 of " + width, x.find(Long.MIN_VALUE, 0, 0), EntryTable.NONE);
        }
    }

    private static void keysBelowZeroHaveLowestBits() {
        check.sentence("keys (their lowest W bits), of keys below 0");
        for (int width : new int[] {1, 2, 31, 32, 33, 47, 48}) {
            for (int kind = 0; kind < 3; kind++) {
                EntryTable x = new EntryTable(1, kind, width);
                long top = (1L << width) - 1;
                x.match(0, top, kind == 1 ? width : top);
                check.due("insert", x.insert(0), 0);
                check.due("find(-1) of kind " + kind, x.find(-1, 0, 0), 0);
                check.due("find(-2) of kind " + kind, x.find(-2, 0, 0), EntryTable.NONE);
                check.due("find of the least of kind " + kind, x.find(Long.MIN_VALUE, 0, 0), EntryTable.NONE);
                check.due("find of the most of kind " + kind, x.find(Long.MAX_VALUE, 0, 0), 0);
            }
        }
    }

    private static void theHighestOfTheWBitsIsLookedAt() {
        check.sentence("keys (their lowest W bits), the highest of these too");
        for (int width = 1; width <= 48; width++) {
            for (int kind = 0; kind < 3; kind++) {
                EntryTable x = new EntryTable(1, kind, width);
                x.match(0, 0, kind == 1 ? 1 : 1L << width - 1);
                check.due("insert", x.insert(0), 0);
                String of = " of " + width + " bits of kind " + kind;
                check.due("find(0)" + of, x.find(0, 0, 0), 0);
                check.due("find of bit W - 1" + of, x.find(1L << width - 1, 0, 0), EntryTable.NONE);
            }
        }
    }

    private static void keysThatAreNotThereAreNotLookedAt() {
        check.sentence("keys (those there are)");
        long[] any = {0, 1, 255, -1, Long.MIN_VALUE, Long.MAX_VALUE};
        for (int kinds = 0; kinds < 27; kinds++) {
            EntryTable one = new EntryTable(1, kinds, 8);
            check.due("insert", one.insert(0), 0);
            EntryTable two = new EntryTable(2, kinds, 8);
            check.due("insert", two.insert(0), 0);
            for (long key : any) {
                check.due("find(0, " + key + ", " + key + ") of one key", one.find(0, key, key), 0);
                check.due("find(0, 0, " + key + ") of two keys", two.find(0, 0, key), 0);
            }
        }
    }

    private static void theLastKeyThatIsThereIsLookedAt() {
        check.sentence("keys (those there are), the last of these too");
        for (int keys = 1; keys <= 3; keys++) {
            for (int k = 0; k < keys; k++) {
                EntryTable x = new EntryTable(keys, 0, 8);
                x.match(k, 9, 0);
                check.due("insert", x.insert(0), 0);
                check.due("find of 9 in key " + k + " of " + keys, findIn(x, k, 9, 0), 0);
                check.due("find of 8 in key " + k + " of " + keys, findIn(x, k, 8, 0), EntryTable.NONE);
            }
        }
    }

    private static void noneInAnEmptyTable() {
        check.sentence("NONE if none matches (no entry at all)");
        for (int kinds = 0; kinds < 27; kinds++) {
            EntryTable x = new EntryTable(3, kinds, 8);
            check.due("find(0, 0, 0)", x.find(0, 0, 0), EntryTable.NONE);
            x.match(0, 0, 0);
            check.due("find of what is only told", x.find(0, 0, 0), EntryTable.NONE);
        }
    }

    private static void noneIfNoneMatches() {
        check.sentence("NONE if none matches");
        EntryTable x = new EntryTable(2, 2 + 3, 8);
        x.match(0, 1, 3);
        x.match(1, 128, 2);
        check.due("insert", x.insert(0), 0);
        x.match(0, 2, 3);
        x.match(1, 192, 2);
        check.due("insert", x.insert(0), 1);
        check.due("find of one key of each", x.find(1, 192, 0), EntryTable.NONE);
        check.due("find of one key of each", x.find(2, 128, 0), EntryTable.NONE);
        check.due("find of the first", x.find(1, 128, 0), 0);
        check.due("find of the second", x.find(2, 192, 0), 1);
    }

    private static void noneWhenItWent() {
        check.sentence("NONE if none matches (it went)");
        EntryTable x = new EntryTable(1, 0, 8);
        x.match(0, 7, 0);
        check.due("insert", x.insert(0), 0);
        check.due("find(7, 0, 0)", x.find(7, 0, 0), 0);
        check.due("remove(0)", x.remove(0), 0);
        check.due("find(7, 0, 0)", x.find(7, 0, 0), EntryTable.NONE);
        check.due("insert", x.insert(0), 1);
        check.due("find(7, 0, 0)", x.find(7, 0, 0), EntryTable.NONE);
    }

    private static void noneOf24() {
        check.sentence("The entry that counts; NONE if none matches (of 24)");
        EntryTable x = new EntryTable(1, 0, 8);
        for (int i = 0; i < 24; i++) {
            x.match(0, i, 0);
            x.insert(0);
        }
        for (int i = 0; i < 24; i++) {
            check.due("find(" + i + ", 0, 0)", x.find(i, 0, 0), i);
        }
        check.due("find(24, 0, 0)", x.find(24, 0, 0), EntryTable.NONE);
        check.due("find(255, 0, 0)", x.find(255, 0, 0), EntryTable.NONE);
    }

    private static void theEntryMadeUpStays() {
        check.sentence("The entry that counts; NONE if none matches (the entry that is made up stays)");
        EntryTable x = new EntryTable(3, 1 + 6, 8);
        check.due("insert", x.insert(0), 0);
        x.match(0, 128, 1);
        x.match(1, 2, 2);
        x.match(2, 3, 0);
        check.due("find(0, 0, 0)", x.find(0, 0, 0), 0);
        check.due("find(128, 2, 3)", x.find(128, 2, 3), EntryTable.NONE);
        check.due("insert of what was told", x.insert(0), 1);
        check.due("find(128, 2, 3)", x.find(128, 2, 3), 1);
        check.due("find(0, 2, 3)", x.find(0, 2, 3), EntryTable.NONE);
        check.due("find(128, 0, 3)", x.find(128, 0, 3), EntryTable.NONE);
        check.due("find(128, 2, 0)", x.find(128, 2, 0), 0);
    }
}
