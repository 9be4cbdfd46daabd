/** The boundary cases that the section "Terms" names, and the limit of "What it is". */
public final class BoundaryTermsTest {
    private static final Check check = new Check();

    public static void main(String[] args) {
        atMostOnePrefix();
        atMost24AtATime();
        numberedFromZeroAsTheyCome();
        noNumberIsUsedAgain();
        prefixesGoFromZeroToW();
        prioritiesAreAnyNumber();
        eachKeyMustBeTheSame();
        exactInAllBits();
        prefixInTheHighest();
        prefixOfZeroLooksAtNothing();
        maskInThoseOfTheMask();
        maskOfZeroLooksAtNothing();
        theLongestPrefixCounts();
        thenTheGreatestPriority();
        thenTheOldest();
        theOldestAmongThoseThatCameLater();
        good512Calls();
        check.end();
    }

    private static void atMostOnePrefix() {
        check.sentence("1 PREFIX (at most one)");
        for (int kinds = 0; kinds < 27; kinds++) {
            EntryTable x = new EntryTable(3, kinds, 8);
            int prefixes = 0;
            for (int what = 4; what <= 6; what++) {
                prefixes += x.count(what) == 1 ? 1 : 0;
            }
            boolean isTold = kinds % 3 == 1 || kinds / 3 % 3 == 1 || kinds / 9 == 1;
            check.due("PREFIX keys of kinds " + kinds, prefixes, isTold ? 1 : 0);
        }
    }

    private static void atMost24AtATime() {
        check.sentence("ENTRIES, at most 24 at a time");
        EntryTable x = new EntryTable(1, 0, 8);
        for (int i = 0; i < 23; i++) {
            x.insert(i);
        }
        check.due("the 24th insert", x.insert(23), 23);
        check.due("count(2)", x.count(2), 24);
        check.due("the 25th insert", x.insert(24), EntryTable.FULL);
        check.due("count(2)", x.count(2), 24);
        check.due("remove(23)", x.remove(23), 23);
        check.due("insert when one went", x.insert(24), 24);
        check.due("insert with 24 again", x.insert(25), EntryTable.FULL);
    }

    private static void numberedFromZeroAsTheyCome() {
        check.sentence("numbered from 0 as they come");
        EntryTable x = new EntryTable(1, 1, 8);
        check.due("first insert", x.insert(0), 0);
        x.match(0, 128, 8);
        check.due("insert that counts before", x.insert(9), 1);
        check.due("insert that counts behind", x.insert(-9), 2);
    }

    private static void noNumberIsUsedAgain() {
        check.sentence("(no number is used again)");
        EntryTable x = new EntryTable(1, 0, 8);
        for (int i = 0; i < 24; i++) {
            x.insert(i);
        }
        for (int i = 0; i < 24; i++) {
            x.remove(23 - i);
            check.due("insert for " + (23 - i), x.insert(100 + i), 24 + i);
        }
        for (int i = 0; i < 24; i++) {
            check.due("hits(" + i + ")", x.hits(i), EntryTable.NONE);
        }
    }

    private static void prefixesGoFromZeroToW() {
        check.sentence("a prefix (0 to W)");
        for (int width = 1; width <= 48; width++) {
            EntryTable x = new EntryTable(1, 1, width);
            check.due("match", x.match(0, 0, 0), 0);
            check.due("insert of prefix 0 of " + width, x.insert(0), 0);
            check.due("match", x.match(0, 0, width), 0);
            check.due("insert of prefix W of " + width, x.insert(0), 1);
            check.due("nth(0)", x.nth(0), 1);
            check.due("nth(1)", x.nth(1), 0);
        }
    }

    private static void prioritiesAreAnyNumber() {
        check.sentence("and a PRIORITY");
        EntryTable x = new EntryTable(1, 0, 8);
        int[] priorities = {0, -1, Integer.MIN_VALUE, Integer.MAX_VALUE, 1,
            Integer.MIN_VALUE + 1, Integer.MAX_VALUE - 1};
        int[] order = {3, 6, 4, 0, 1, 5, 2};
        for (int i = 0; i < priorities.length; i++) {
            check.due("insert(" + priorities[i] + ")", x.insert(priorities[i]), i);
            check.due("insert(" + priorities[i] + ") again", x.insert(priorities[i]), EntryTable.THERE);
        }
        for (int k = 0; k < order.length; k++) {
            check.due("nth(" + k + ")", x.nth(k), order[k]);
        }
    }

    private static void eachKeyMustBeTheSame() {
        check.sentence("An entry MATCHES if each key is the same as its value");
        for (int kinds = 0; kinds < 27; kinds++) {
            EntryTable x = new EntryTable(3, kinds, 4);
            for (int k = 0; k < 3; k++) {
                x.match(k, 15, x.count(4 + k) == 1 ? 4 : 15);
            }
            check.due("insert with kinds " + kinds, x.insert(0), 0);
            check.due("find of all", x.find(15, 15, 15), 0);
            check.due("find of all but the first", x.find(14, 15, 15), EntryTable.NONE);
            check.due("find of all but the second", x.find(15, 14, 15), EntryTable.NONE);
            check.due("find of all but the third", x.find(15, 15, 14), EntryTable.NONE);
        }
    }

    private static void exactInAllBits() {
        check.sentence("exact: in all bits");
        for (int width : new int[] {1, 2, 31, 32, 33, 47, 48}) {
            everyBitOf(0, width, 0, 0, width);
            everyBitOf(0, width, (1L << width) - 1, 0, width);
        }
    }

    private static void prefixInTheHighest() {
        check.sentence("prefix: in the highest, as many as that says");
        for (int width : new int[] {1, 2, 31, 32, 33, 47, 48}) {
            everyBitOf(1, width, 1L << width - 1, 1, 1);
            everyBitOf(1, width, 0, width, width);
            everyBitOf(1, width, (1L << width) - 1, width, width);
            everyBitOf(1, width, 0, width - 1, width - 1);
            everyBitOf(1, width, (1L << width) - 2, width - 1, width - 1);
        }
    }

    private static void prefixOfZeroLooksAtNothing() {
        check.sentence("prefix: in the highest, as many as that says (0)");
        for (int width : new int[] {1, 2, 31, 32, 33, 47, 48}) {
            everyBitOf(1, width, 0, 0, 0);
        }
    }

    /** Of one key, the bits of W that matter are the highest ones, as many as are told here. */
    private static void everyBitOf(int kind, int width, long value, long mask, int matter) {
        EntryTable x = new EntryTable(1, kind, width);
        x.match(0, value, mask);
        String of = " of " + value + " with " + mask + " of " + width + " bits";
        check.due("insert" + of, x.insert(0), 0);
        check.due("find" + of, x.find(value, 0, 0), 0);
        for (int bit = 0; bit < width; bit++) {
            int want = bit >= width - matter ? EntryTable.NONE : 0;
            check.due("find without bit " + bit + of, x.find(value ^ 1L << bit, 0, 0), want);
        }
    }

    private static void maskInThoseOfTheMask() {
        check.sentence("mask: in those of the mask");
        for (int width : new int[] {1, 2, 31, 32, 33, 47, 48}) {
            for (int only = 0; only < width; only++) {
                EntryTable x = new EntryTable(1, 2, width);
                x.match(0, 1L << only, 1L << only);
                String of = " of bit " + only + " of " + width;
                check.due("insert" + of, x.insert(0), 0);
                check.due("find" + of, x.find(1L << only, 0, 0), 0);
                check.due("find of all" + of, x.find(-1, 0, 0), 0);
                check.due("find of none" + of, x.find(0, 0, 0), EntryTable.NONE);
                check.due("find of all others" + of, x.find(~(1L << only), 0, 0), EntryTable.NONE);
            }
        }
    }

    private static void maskOfZeroLooksAtNothing() {
        check.sentence("mask: in those of the mask (0)");
        for (int width : new int[] {1, 2, 31, 32, 33, 47, 48}) {
            EntryTable x = new EntryTable(1, 2, width);
            check.due("insert", x.insert(0), 0);
            check.due("find(0)", x.find(0, 0, 0), 0);
            check.due("find(-1)", x.find(-1, 0, 0), 0);
            check.due("find(1)", x.find(1, 0, 0), 0);
            check.due("find of the highest bit", x.find(1L << width - 1, 0, 0), 0);
        }
    }

    private static void theLongestPrefixCounts() {
        check.sentence("Of several that of the longest prefix COUNTS");
        EntryTable x = new EntryTable(1, 1, 48);
        for (int prefix = 0; prefix <= 22; prefix++) {
            x.match(0, 0, prefix);
            x.insert(Integer.MAX_VALUE - prefix);
            check.due("find", x.find(0, 0, 0), prefix);
        }
        x.match(0, 0, 48);
        x.insert(Integer.MIN_VALUE);
        check.due("find", x.find(0, 0, 0), 23);
        check.due("find of what the longest does not match", x.find(1, 0, 0), 22);
        check.due("find of what only the shortest matches", x.find(-1, 0, 0), 0);
    }

    private static void thenTheGreatestPriority() {
        check.sentence("then that of the greatest priority");
        EntryTable x = new EntryTable(1, 1, 8);
        x.match(0, 128, 1);
        x.insert(Integer.MIN_VALUE);
        x.match(0, 128, 1);
        x.insert(Integer.MAX_VALUE);
        x.match(0, 128, 1);
        x.insert(-1);
        x.insert(Integer.MAX_VALUE);
        check.due("find", x.find(128, 0, 0), 1);
        x.remove(1);
        check.due("find without the greatest", x.find(128, 0, 0), 2);
        x.remove(2);
        check.due("find without both", x.find(128, 0, 0), 0);
        x.remove(0);
        check.due("find of the shorter prefix", x.find(128, 0, 0), 3);
    }

    private static void thenTheOldest() {
        check.sentence("then the oldest one");
        EntryTable x = new EntryTable(1, 2, 8);
        for (int i = 0; i < 24; i++) {
            x.match(0, 0, 24 - i);
            x.insert(7);
        }
        for (int i = 0; i < 24; i++) {
            check.due("find", x.find(0, 0, 0), i);
            x.remove(i);
        }
    }

    private static void theOldestAmongThoseThatCameLater() {
        check.sentence("then the oldest one, where others went");
        EntryTable x = new EntryTable(1, 2, 8);
        for (int i = 0; i < 24; i++) {
            x.match(0, 0, i);
            x.insert(7);
        }
        for (int i = 0; i < 12; i++) {
            x.remove(2 * i);
            x.match(0, 0, 100 + i);
            check.due("insert", x.insert(7), 24 + i);
        }
        for (int k = 0; k < 24; k++) {
            check.due("nth(" + k + ")", x.nth(k), k < 12 ? 2 * k + 1 : 12 + k);
        }
        for (int k = 0; k < 24; k++) {
            int oldest = k < 12 ? 2 * k + 1 : 12 + k;
            check.due("find", x.find(0, 0, 0), oldest);
            x.remove(oldest);
        }
    }

    private static void good512Calls() {
        check.sentence("An object is used for at most 512 calls after it has been made");
        EntryTable numbers = new EntryTable(1, 0, 8);
        for (int i = 0; i < 24; i++) {
            numbers.insert(i);
        }
        for (int i = 0; i < 244; i++) {
            check.due("remove(" + i + ")", numbers.remove(i), 23);
            check.due("insert(" + (24 + i) + ")", numbers.insert(24 + i), 24 + i);
        }
        EntryTable hits = new EntryTable(1, 0, 8);
        hits.insert(0);
        EntryTable misses = new EntryTable(1, 0, 8);
        misses.find(0, 0, 0);
        for (int i = 0; i < 510; i++) {
            check.due("find", hits.find(0, 0, 0), 0);
            check.due("find", misses.find(0, 0, 0), EntryTable.NONE);
        }
        check.due("hits(0)", hits.hits(0), 510);
        check.due("count(3)", misses.count(3), 511);
    }
}
