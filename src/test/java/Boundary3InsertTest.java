/** The boundary cases that promise 3 names. */
public final class Boundary3InsertTest {
    private static final Check check = new Check();
    private static final int[] WIDTHS = {1, 2, 3, 30, 31, 32, 33, 47, 48};

    public static void main(String[] args) {
        itsValuesAreZeroWhenAnotherIsBegun();
        itsPrefixesAndMasksAreZeroWhenAnotherIsBegun();
        refusesValuesBelowZero();
        refusesValuesAbove();
        takesValuesAtTheEnds();
        refusesMasksBelowZero();
        refusesMasksAbove();
        takesMasksAtTheEnds();
        refusesPrefixesBelowZero();
        refusesPrefixesAbove();
        takesPrefixesAtTheEnds();
        refusesBitsOutsideTheMask();
        refusesBitsOutsideThePrefix();
        refusesEachOfTheKeys();
        takesAnyMaskOfAnExactKey();
        thereIfAllIsTheSame();
        notThereIfOneValueDiffers();
        notThereIfTheMaskDiffers();
        notThereIfThePrefixDiffers();
        notThereIfThePriorityDiffers();
        notThereIfItWent();
        fullWith24();
        notFullWith23();
        refusedComesBeforeFull();
        thereComesBeforeFull();
        nothingChangesIfRefused();
        nothingChangesIfThere();
        nothingChangesIfFull();
        check.end();
    }

    private static int insertOne(int kind, int width, long value, long mask) {
        EntryTable x = new EntryTable(1, kind, width);
        x.match(0, value, mask);
        return x.insert(0);
    }

    private static void takes(int kind, int width, long value, long mask) {
        check.due("insert of kind " + kind + " of " + width + " bits: " + value + ", " + mask,
                insertOne(kind, width, value, mask), 0);
    }

    private static void refuses(int kind, int width, long value, long mask) {
        check.due("insert of kind " + kind + " of " + width + " bits: " + value + ", " + mask,
                insertOne(kind, width, value, mask), EntryTable.REFUSED);
    }

    private static long top(int width) {
        return (1L << width) - 1;
    }

    private static void itsValuesAreZeroWhenAnotherIsBegun() {
        check.sentence("another one is begun (all its values are 0)");
        EntryTable x = new EntryTable(3, 0, 8);
        for (int k = 0; k < 3; k++) {
            x.match(k, 255, 0);
        }
        check.due("insert", x.insert(0), 0);
        check.due("insert of the one begun", x.insert(0), 1);
        check.due("find(0, 0, 0)", x.find(0, 0, 0), 1);
        for (int k = 0; k < 3; k++) {
            x.match(k, 0, 0);
        }
        check.due("insert of zeros", x.insert(0), EntryTable.THERE);
    }

    private static void itsPrefixesAndMasksAreZeroWhenAnotherIsBegun() {
        check.sentence("another one is begun (all its prefixes and masks are 0)");
        for (int kinds : new int[] {1 + 6 + 18, 2 + 3 + 18, 2 + 6 + 9}) {
            EntryTable x = new EntryTable(3, kinds, 8);
            for (int k = 0; k < 3; k++) {
                x.match(k, 0, x.count(4 + k) == 1 ? 8 : 255);
            }
            check.due("insert", x.insert(0), 0);
            check.due("insert of the one begun", x.insert(0), 1);
            check.due("find(-1, -1, -1)", x.find(-1, -1, -1), 1);
            for (int k = 0; k < 3; k++) {
                x.match(k, 0, 0);
            }
            check.due("insert of zeros", x.insert(0), EntryTable.THERE);
        }
    }

    private static void refusesValuesBelowZero() {
        check.sentence("REFUSED if the value of one of the K keys is not 0 to 2^W - 1 (below)");
        for (int width : WIDTHS) {
            for (long value : new long[] {-1, -2, -top(width), -top(width) - 1, Long.MIN_VALUE}) {
                refuses(0, width, value, 0);
                refuses(1, width, value, width);
                refuses(2, width, value, top(width));
            }
        }
    }

    private static void refusesValuesAbove() {
        check.sentence("REFUSED if the value of one of the K keys is not 0 to 2^W - 1 (above)");
        for (int width : WIDTHS) {
            for (long value : new long[] {top(width) + 1, top(width) + 2, 1L << 62, Long.MAX_VALUE}) {
                refuses(0, width, value, 0);
                refuses(1, width, value, width);
                refuses(2, width, value, top(width));
            }
        }
    }

    private static void takesValuesAtTheEnds() {
        check.sentence("the value of one of the K keys: 0 to 2^W - 1");
        for (int width : WIDTHS) {
            for (long value : new long[] {0, 1, top(width) - 1, top(width)}) {
                takes(0, width, value, 0);
                takes(1, width, value, width);
                takes(2, width, value, top(width));
            }
        }
    }

    private static void refusesMasksBelowZero() {
        check.sentence("REFUSED if a mask is not 0 to 2^W - 1 (below)");
        for (int width : WIDTHS) {
            for (long mask : new long[] {-1, -2, -top(width) - 1, Long.MIN_VALUE}) {
                refuses(2, width, 0, mask);
            }
        }
    }

    private static void refusesMasksAbove() {
        check.sentence("REFUSED if a mask is not 0 to 2^W - 1 (above)");
        for (int width : WIDTHS) {
            for (long mask : new long[] {top(width) + 1, 2 * top(width) + 1, 1L << 62, Long.MAX_VALUE}) {
                refuses(2, width, 0, mask);
                refuses(2, width, 1, mask | 1);
            }
        }
    }

    private static void takesMasksAtTheEnds() {
        check.sentence("a mask: 0 to 2^W - 1");
        for (int width : WIDTHS) {
            takes(2, width, 0, 0);
            takes(2, width, 0, 1);
            takes(2, width, 0, top(width) - 1);
            takes(2, width, 0, top(width));
            takes(2, width, top(width), top(width));
        }
    }

    private static void refusesPrefixesBelowZero() {
        check.sentence("REFUSED if a prefix is not 0 to W (below)");
        long[] below = {-1, -2, -48, -64, Integer.MIN_VALUE, -(1L << 32), 1 - (1L << 32), Long.MIN_VALUE};
        for (int width : WIDTHS) {
            for (long prefix : below) {
                refuses(1, width, 0, prefix);
            }
        }
    }

    private static void refusesPrefixesAbove() {
        check.sentence("REFUSED if a prefix is not 0 to W (above)");
        for (int width : WIDTHS) {
            long[] above = {width + 1, width + 2, 63, 64, 64 + width, Integer.MAX_VALUE, 1L << 32,
                (1L << 32) + 1, (1L << 32) + width, Long.MAX_VALUE};
            for (long prefix : above) {
                refuses(1, width, 0, prefix);
                refuses(1, width, top(width), prefix);
            }
        }
    }

    private static void takesPrefixesAtTheEnds() {
        check.sentence("a prefix: 0 to W");
        for (int width : WIDTHS) {
            for (int prefix = 0; prefix <= width; prefix++) {
                takes(1, width, 0, prefix);
                takes(1, width, top(width) & ~top(width - prefix), prefix);
            }
        }
    }

    private static void refusesBitsOutsideTheMask() {
        check.sentence("REFUSED if a value has bits outside its mask");
        for (int width : WIDTHS) {
            for (int bit = 0; bit < width; bit++) {
                refuses(2, width, 1L << bit, top(width) & ~(1L << bit));
                refuses(2, width, top(width), top(width) & ~(1L << bit));
                refuses(2, width, 1L << bit, 0);
                takes(2, width, 1L << bit, 1L << bit);
                takes(2, width, top(width) & ~(1L << bit), top(width) & ~(1L << bit));
            }
        }
    }

    private static void refusesBitsOutsideThePrefix() {
        check.sentence("REFUSED if a value has bits outside its prefix");
        for (int width : WIDTHS) {
            for (int prefix = 0; prefix <= width; prefix++) {
                for (int bit = 0; bit < width; bit++) {
                    if (bit >= width - prefix) {
                        takes(1, width, 1L << bit, prefix);
                    } else {
                        refuses(1, width, 1L << bit, prefix);
                    }
                }
            }
        }
    }

    private static void refusesEachOfTheKeys() {
        check.sentence("REFUSED if the value of one of the K keys, or a mask, or a prefix");
        for (int keys = 1; keys <= 3; keys++) {
            for (int k = 0; k < 3; k++) {
                int want = k < keys ? EntryTable.REFUSED : 0;
                int digit = new int[] {1, 3, 9}[k];
                String of = " of key " + k + " of " + keys;
                check.due("value below" + of, insertIn(keys, 0, k, -1, 0), want);
                check.due("value above" + of, insertIn(keys, 0, k, 16, 0), want);
                check.due("mask below" + of, insertIn(keys, 2 * digit, k, 0, -1), want);
                check.due("mask above" + of, insertIn(keys, 2 * digit, k, 0, 16), want);
                check.due("prefix below" + of, insertIn(keys, digit, k, 0, -1), want);
                check.due("prefix above" + of, insertIn(keys, digit, k, 0, 5), want);
                check.due("outside mask" + of, insertIn(keys, 2 * digit, k, 2, 5), want);
                check.due("outside prefix" + of, insertIn(keys, digit, k, 2, 2), want);
            }
        }
    }

    private static int insertIn(int keys, int kinds, int k, long value, long mask) {
        EntryTable x = new EntryTable(keys, kinds, 4);
        x.match(k, value, mask);
        return x.insert(0);
    }

    private static void takesAnyMaskOfAnExactKey() {
        check.sentence("(of an EXACT key only the value counts, whatever its mask)");
        for (int width : WIDTHS) {
            long[] masks = {0, 1, -1, width, width + 1, top(width), top(width) + 1,
                Long.MIN_VALUE, Long.MAX_VALUE};
            for (long mask : masks) {
                takes(0, width, 0, mask);
                takes(0, width, top(width), mask);
                refuses(0, width, top(width) + 1, mask);
                refuses(0, width, -1, mask);
            }
        }
    }

    /** Key 0 PREFIX, key 1 MASK, key 2 EXACT. */
    private static int insertThree(EntryTable x, long a, long prefix, long b, long mask, long c, int priority) {
        x.match(0, a, prefix);
        x.match(1, b, mask);
        x.match(2, c, 0);
        return x.insert(priority);
    }

    private static void thereIfAllIsTheSame() {
        check.sentence("else THERE if there is one with the same values, masks, prefix and priority");
        for (int width : WIDTHS) {
            EntryTable x = new EntryTable(3, 1 + 6, width);
            long top = top(width);
            check.due("insert of most", insertThree(x, top, width, top, top, top, Integer.MAX_VALUE), 0);
            check.due("insert of least", insertThree(x, 0, 0, 0, 0, 0, Integer.MIN_VALUE), 1);
            check.due("insert of most again",
                    insertThree(x, top, width, top, top, top, Integer.MAX_VALUE), EntryTable.THERE);
            check.due("insert of least again",
                    insertThree(x, 0, 0, 0, 0, 0, Integer.MIN_VALUE), EntryTable.THERE);
        }
    }

    private static void notThereIfOneValueDiffers() {
        check.sentence("else THERE if there is one with the same values");
        for (int width : WIDTHS) {
            EntryTable x = new EntryTable(3, 1 + 6, width);
            long top = top(width);
            long high = 1L << width - 1;
            check.due("insert", insertThree(x, top, width, top, top, top, 0), 0);
            check.due("other lowest bit of PREFIX", insertThree(x, top ^ 1, width, top, top, top, 0), 1);
            check.due("other lowest bit of MASK", insertThree(x, top, width, top ^ 1, top, top, 0), 2);
            check.due("other lowest bit of EXACT", insertThree(x, top, width, top, top, top ^ 1, 0), 3);
            if (width > 1) {
                check.due("other highest bit of PREFIX", insertThree(x, top ^ high, width, top, top, top, 0), 4);
                check.due("other highest bit of MASK", insertThree(x, top, width, top ^ high, top, top, 0), 5);
                check.due("other highest bit of EXACT", insertThree(x, top, width, top, top, top ^ high, 0), 6);
            }
        }
    }

    private static void notThereIfTheMaskDiffers() {
        check.sentence("else THERE if there is one with the same masks");
        for (int width : WIDTHS) {
            EntryTable x = new EntryTable(3, 1 + 6, width);
            check.due("mask of all", insertThree(x, 0, 0, 0, top(width), 0, 0), 0);
            check.due("mask of none", insertThree(x, 0, 0, 0, 0, 0, 0), 1);
            if (width > 1) {
                check.due("without the lowest", insertThree(x, 0, 0, 0, top(width) ^ 1, 0, 0), 2);
                check.due("without the highest", insertThree(x, 0, 0, 0, top(width - 1), 0, 0), 3);
            }
        }
    }

    private static void notThereIfThePrefixDiffers() {
        check.sentence("else THERE if there is one with the same prefix");
        for (int width : WIDTHS) {
            EntryTable x = new EntryTable(1, 1, width);
            int most = Math.min(width, 22);
            for (int prefix = 0; prefix <= most; prefix++) {
                x.match(0, 0, prefix);
                check.due("insert of prefix " + prefix, x.insert(0), prefix);
            }
            x.match(0, 0, width);
            check.due("insert of prefix W", x.insert(0), width > most ? 23 : EntryTable.THERE);
        }
    }

    private static void notThereIfThePriorityDiffers() {
        check.sentence("else THERE if there is one with the same priority");
        EntryTable x = new EntryTable(1, 0, 8);
        int[] priorities = {0, 1, -1, 256, 65536, Integer.MAX_VALUE, Integer.MIN_VALUE};
        for (int i = 0; i < priorities.length; i++) {
            check.due("insert(" + priorities[i] + ")", x.insert(priorities[i]), i);
        }
        for (int priority : priorities) {
            check.due("insert(" + priority + ") again", x.insert(priority), EntryTable.THERE);
        }
    }

    private static void notThereIfItWent() {
        check.sentence("THERE if there is one");
        EntryTable x = new EntryTable(1, 0, 8);
        check.due("insert", x.insert(0), 0);
        check.due("insert again", x.insert(0), EntryTable.THERE);
        check.due("remove(0)", x.remove(0), 0);
        check.due("insert when it went", x.insert(0), 1);
        check.due("insert again", x.insert(0), EntryTable.THERE);
    }

    private static EntryTable ofEntries(int entries) {
        EntryTable x = new EntryTable(2, 2, 8);
        for (int i = 0; i < entries; i++) {
            x.match(1, i, 0);
            check.due("insert of " + i, x.insert(0), i);
        }
        return x;
    }

    private static void fullWith24() {
        check.sentence("else FULL with 24");
        EntryTable x = ofEntries(24);
        x.match(1, 24, 0);
        check.due("insert with 24", x.insert(0), EntryTable.FULL);
        check.due("insert with 24 of another priority", x.insert(1), EntryTable.FULL);
    }

    private static void notFullWith23() {
        check.sentence("else FULL with 24 (not with 23)");
        EntryTable x = ofEntries(23);
        x.match(1, 23, 0);
        check.due("insert with 23", x.insert(0), 23);
        for (int i = 0; i < 24; i++) {
            check.due("remove(" + i + ")", x.remove(i), 23);
            x.match(1, 100 + i, 0);
            check.due("insert with 23 after " + i + " went", x.insert(0), 24 + i);
        }
    }

    private static void refusedComesBeforeFull() {
        check.sentence("REFUSED if; else FULL");
        EntryTable x = ofEntries(24);
        x.match(1, 256, 0);
        check.due("insert with 24 of a value above", x.insert(0), EntryTable.REFUSED);
        x.match(1, 100, 0);
        x.match(0, 1, 0);
        check.due("insert with 24 of a value outside", x.insert(0), EntryTable.REFUSED);
        x.match(0, 0, 256);
        check.due("insert with 24 of a mask above", x.insert(0), EntryTable.REFUSED);
        x.match(0, 0, 255);
        check.due("insert with 24 of what is right", x.insert(0), EntryTable.FULL);
    }

    private static void thereComesBeforeFull() {
        check.sentence("else THERE; else FULL");
        EntryTable x = ofEntries(24);
        for (int i = 0; i < 24; i++) {
            x.match(1, i, 0);
            check.due("insert with 24 of " + i, x.insert(0), EntryTable.THERE);
            check.due("insert with 24 of " + i + " with another priority", x.insert(1), EntryTable.FULL);
        }
    }

    private static EntryTable ofTwoWithFinds() {
        EntryTable x = new EntryTable(3, 1 + 6, 8);
        check.due("insert", insertThree(x, 128, 1, 1, 1, 5, 3), 0);
        check.due("insert", insertThree(x, 0, 0, 2, 2, 5, 9), 1);
        check.due("find", x.find(128, 3, 5), 0);
        check.due("find", x.find(0, 3, 5), 1);
        check.due("find", x.find(0, 3, 6), EntryTable.NONE);
        return x;
    }

    private static void nothingChangesIfRefused() {
        check.sentence("In these cases nothing changes (REFUSED)");
        long[][] wrong = {{0, 1, 0}, {0, 128, 9}, {0, 256, 8}, {1, 1, 0}, {1, 0, 256}, {1, -1, 255},
            {2, 256, 0}, {2, -1, 0}};
        for (long[] one : wrong) {
            EntryTable x = ofTwoWithFinds();
            x.match(0, 192, 2);
            x.match(1, 4, 4);
            x.match(2, 7, 0);
            x.match((int) one[0], one[1], one[2]);
            String before = Seen.of(x, 4);
            check.due("insert", x.insert(0), EntryTable.REFUSED);
            check.same("the table", Seen.of(x, 4), before);
            check.due("insert again", x.insert(0), EntryTable.REFUSED);
            x.match((int) one[0], new int[] {192, 4, 7}[(int) one[0]], new int[] {2, 4, 0}[(int) one[0]]);
            isToldWhole(x);
        }
    }

    /** The entry made up has 192 by 2 bits, 4 by mask 4, and 7. */
    private static void isToldWhole(EntryTable x) {
        check.due("insert of what was told", x.insert(0), 2);
        check.due("find of what was told", x.find(255, 255, 7), 2);
        check.due("find of another first key", x.find(128, 255, 7), EntryTable.NONE);
        check.due("find of another second key", x.find(255, 251, 7), EntryTable.NONE);
        check.due("find of another third key", x.find(255, 255, 0), EntryTable.NONE);
    }

    private static void nothingChangesIfThere() {
        check.sentence("In these cases nothing changes (THERE)");
        EntryTable x = ofTwoWithFinds();
        x.match(0, 128, 1);
        x.match(1, 1, 1);
        x.match(2, 5, 0);
        String before = Seen.of(x, 4);
        check.due("insert", x.insert(3), EntryTable.THERE);
        check.same("the table", Seen.of(x, 4), before);
        check.due("insert again", x.insert(3), EntryTable.THERE);
        check.due("insert with another priority", x.insert(2), 2);
        check.due("remove(0)", x.remove(0), 2);
        check.due("find of what was told", x.find(255, 1, 5), 2);
        check.due("find of another first key", x.find(127, 1, 5), EntryTable.NONE);
        check.due("find of another second key", x.find(255, 0, 5), EntryTable.NONE);
        check.due("find of another third key", x.find(255, 1, 0), EntryTable.NONE);
    }

    private static void nothingChangesIfFull() {
        check.sentence("In these cases nothing changes (FULL)");
        EntryTable x = new EntryTable(3, 1 + 6, 8);
        for (int i = 0; i < 24; i++) {
            check.due("insert", insertThree(x, 0, 0, 0, 0, 100 + i, i % 5), i);
        }
        x.find(0, 0, 100);
        x.find(0, 0, 99);
        x.match(0, 192, 2);
        x.match(1, 4, 4);
        x.match(2, 7, 0);
        String before = Seen.of(x, 26);
        check.due("insert", x.insert(0), EntryTable.FULL);
        check.same("the table", Seen.of(x, 26), before);
        check.due("insert again", x.insert(0), EntryTable.FULL);
        check.due("remove(5)", x.remove(5), 23);
        check.due("insert of what was told", x.insert(0), 24);
        check.due("find of what was told", x.find(255, 255, 7), 24);
        check.due("find of another first key", x.find(128, 255, 7), EntryTable.NONE);
        check.due("find of another second key", x.find(255, 251, 7), EntryTable.NONE);
        check.due("find of another third key", x.find(255, 255, 0), EntryTable.NONE);
    }
}
