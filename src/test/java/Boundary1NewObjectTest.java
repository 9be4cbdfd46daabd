/** The boundary cases that promise 1 names. */
public final class Boundary1NewObjectTest {
    private static final Check check = new Check();

    public static void main(String[] args) {
        tooFewKeysAreOne();
        tooManyKeysAreThree();
        oneToThreeKeysStand();
        tooSmallAWidthIsOne();
        tooLargeAWidthIs48();
        oneTo48BitsStand();
        kindsAreTheLastThreeDigits();
        kindsBelowZeroAreZero();
        aSecondPrefixIsExact();
        aThirdPrefixIsExact();
        aPrefixBehindAnotherKindStands();
        kindsOfKeysBeyondKAreTold();
        check.end();
    }

    private static void tooFewKeysAreOne() {
        check.sentence("K: keys, 1 to 3, clamped");
        for (int keys : new int[] {0, -1, -2, -3, Integer.MIN_VALUE}) {
            EntryTable x = new EntryTable(keys, 0, 8);
            check.due("count(0) of " + keys + " keys", x.count(0), 1);
            x.match(0, 5, 0);
            x.match(1, -1, 0);
            check.due("insert", x.insert(0), 0);
            check.due("find(5, 1, 2)", x.find(5, 1, 2), 0);
            check.due("find(4, 1, 2)", x.find(4, 1, 2), EntryTable.NONE);
        }
    }

    private static void tooManyKeysAreThree() {
        check.sentence("K: keys, 1 to 3, clamped");
        for (int keys : new int[] {4, 5, 6, 24, 256, Integer.MAX_VALUE}) {
            EntryTable x = new EntryTable(keys, 0, 8);
            check.due("count(0) of " + keys + " keys", x.count(0), 3);
            check.due("match(3, 0, 0)", x.match(3, 0, 0), EntryTable.REFUSED);
            x.match(2, 5, 0);
            check.due("insert", x.insert(0), 0);
            check.due("find(0, 0, 5)", x.find(0, 0, 5), 0);
            check.due("find(0, 0, 4)", x.find(0, 0, 4), EntryTable.NONE);
        }
    }

    private static void oneToThreeKeysStand() {
        check.sentence("K: keys, 1 to 3");
        for (int keys = 1; keys <= 3; keys++) {
            EntryTable x = new EntryTable(keys, 0, 8);
            check.due("count(0) of " + keys + " keys", x.count(0), keys);
            check.due("insert", x.insert(0), 0);
            check.due("find(0, 0, 1)", x.find(0, 0, 1), keys > 2 ? EntryTable.NONE : 0);
            check.due("find(0, 1, 0)", x.find(0, 1, 0), keys > 1 ? EntryTable.NONE : 0);
            check.due("find(1, 0, 0)", x.find(1, 0, 0), EntryTable.NONE);
        }
    }

    private static void tooSmallAWidthIsOne() {
        check.sentence("W: width, 1 to 48, clamped");
        for (int width : new int[] {0, -1, -48, -63, -64, Integer.MIN_VALUE}) {
            hasWidth(new EntryTable(1, 0, width), "width " + width, 1);
        }
    }

    private static void tooLargeAWidthIs48() {
        check.sentence("W: width, 1 to 48, clamped");
        for (int width : new int[] {49, 50, 62, 63, 64, 65, 112, Integer.MAX_VALUE}) {
            hasWidth(new EntryTable(1, 0, width), "width " + width, 48);
        }
    }

    private static void oneTo48BitsStand() {
        check.sentence("W: width, 1 to 48");
        for (int width = 1; width <= 48; width++) {
            hasWidth(new EntryTable(1, 0, width), "width " + width, width);
        }
    }

    private static void hasWidth(EntryTable x, String of, int width) {
        check.due("count(1) of " + of, x.count(1), width);
        x.match(0, 1L << width, 0);
        check.due("insert of 2^W of " + of, x.insert(0), EntryTable.REFUSED);
        x.match(0, (1L << width) - 1, 0);
        check.due("insert of 2^W - 1 of " + of, x.insert(0), 0);
        check.due("find of 2^W - 1 of " + of, x.find((1L << width) - 1, 0, 0), 0);
        check.due("find of a bit above W of " + of, x.find((1L << width + 1) - 1, 0, 0), 0);
        check.due("find without bit W - 1 of " + of, x.find((1L << width - 1) - 1, 0, 0), EntryTable.NONE);
    }

    private static void kindsAreTheLastThreeDigits() {
        check.sentence("the last, last but one and last but two digit of kinds in base 3");
        kinds(0, 0, 0, 0);
        kinds(2, 2, 0, 0);
        kinds(3, 0, 1, 0);
        kinds(6, 0, 2, 0);
        kinds(9, 0, 0, 1);
        kinds(18, 0, 0, 2);
        kinds(26, 2, 2, 2);
        kinds(27, 0, 0, 0);
        kinds(28, 1, 0, 0);
        kinds(53, 2, 2, 2);
        kinds(81 + 21, 0, 1, 2);
        kinds(Integer.MAX_VALUE, 1, 0, 0);
        kinds(Integer.MAX_VALUE - 1, 0, 0, 1);
        kinds(Integer.MAX_VALUE - 2, 2, 2, 0);
    }

    private static void kindsBelowZeroAreZero() {
        check.sentence("(0 if it is below 0)");
        for (int told : new int[] {-1, -2, -3, -9, -13, -26, -27, Integer.MIN_VALUE, Integer.MIN_VALUE + 1}) {
            kinds(told, 0, 0, 0);
        }
        EntryTable x = new EntryTable(1, -1, 8);
        x.match(0, 5, -1);
        check.due("insert of an EXACT key", x.insert(0), 0);
        check.due("find(5, 0, 0)", x.find(5, 0, 0), 0);
        check.due("find(4, 0, 0)", x.find(4, 0, 0), EntryTable.NONE);
    }

    private static void aSecondPrefixIsExact() {
        check.sentence("a second PREFIX is EXACT");
        kinds(1 + 3, 1, 0, 0);
        kinds(1 + 9, 1, 0, 0);
        kinds(3 + 9, 0, 1, 0);
        kinds(1 + 6 + 9, 1, 2, 0);
        kinds(1 + 3 + 18, 1, 0, 2);
        kinds(2 + 3 + 9, 2, 1, 0);
        EntryTable x = new EntryTable(2, 1 + 3, 8);
        x.match(1, 5, 9);
        check.due("insert of 5 with prefix 9", x.insert(0), 0);
        check.due("find(77, 5, 0)", x.find(77, 5, 0), 0);
        check.due("find(77, 4, 0)", x.find(77, 4, 0), EntryTable.NONE);
    }

    private static void aThirdPrefixIsExact() {
        check.sentence("a second PREFIX is EXACT (and a third)");
        kinds(13, 1, 0, 0);
        kinds(27 + 13, 1, 0, 0);
        EntryTable x = new EntryTable(3, 13, 8);
        x.match(2, 5, 9);
        check.due("insert of 5 with prefix 9", x.insert(0), 0);
        check.due("find(77, 0, 5)", x.find(77, 0, 5), 0);
        check.due("find(77, 0, 4)", x.find(77, 0, 4), EntryTable.NONE);
    }

    private static void aPrefixBehindAnotherKindStands() {
        check.sentence("a second PREFIX is EXACT (not the first)");
        kinds(0 + 3, 0, 1, 0);
        kinds(2 + 3, 2, 1, 0);
        kinds(0 + 9, 0, 0, 1);
        kinds(2 + 6 + 9, 2, 2, 1);
        EntryTable x = new EntryTable(3, 17, 8);
        x.match(2, 128, 1);
        check.due("insert of prefix 1", x.insert(0), 0);
        check.due("find(0, 0, 255)", x.find(0, 0, 255), 0);
        check.due("find(0, 0, 127)", x.find(0, 0, 127), EntryTable.NONE);
    }

    private static void kindsOfKeysBeyondKAreTold() {
        check.sentence("the kinds of keys 0, 1 and 2");
        for (int keys : new int[] {-1, 0, 1, 2, 3, 4}) {
            EntryTable x = new EntryTable(keys, 2 + 3 + 18, 8);
            check.due("count(4) of " + keys + " keys", x.count(4), 2);
            check.due("count(5) of " + keys + " keys", x.count(5), 1);
            check.due("count(6) of " + keys + " keys", x.count(6), 2);
        }
    }

    private static void kinds(int told, int first, int second, int third) {
        EntryTable x = new EntryTable(3, told, 8);
        check.due("count(4) of kinds " + told, x.count(4), first);
        check.due("count(5) of kinds " + told, x.count(5), second);
        check.due("count(6) of kinds " + told, x.count(6), third);
    }
}
