/** Sentences of the document that a third reading found tested only by the long runs, or not at all. */
public final class WholeDocumentTest {
    private static final Check check = new Check();

    public static void main(String[] args) {
        everyNumberOfTwoBitsMatchesAsTheKindsSay();
        ofThoseThatMatchOneCounts();
        thePrefixMayBeOfAnyKey();
        everyPairCountsInItsOrder();
        eachKeyHasAMaskOfItsOwn();
        entriesWithOtherMasksOfAnyKeyAreOthers();
        objectsStandApart();
        newObjectsBeginAnew();
        aKeyThatIsNotToldAgainStays();
        onlyMatchAndInsertChangeTheEntryMadeUp();
        othersStayAsTheyWereWhenOneGoes();
        whatComesAgainIsTheYoungest();
        noneIsFoundAsOftenAsFindSaysSo();
        hitsGoOnWhileOthersCountMore();
        insertAndRemoveFindNothing();
        check.end();
    }

    /** Of the three keys one is EXACT, one PREFIX and one MASK, in each order of these. */
    private static void everyNumberOfTwoBitsMatchesAsTheKindsSay() {
        check.sentence("entries that match numbers exactly, by their highest bits, or where masks say");
        for (int kinds : new int[] {0 + 3 + 18, 0 + 6 + 9, 1 + 0 + 18, 1 + 6 + 0, 2 + 0 + 9, 2 + 3 + 0}) {
            for (int exact = 0; exact < 4; exact++) {
                for (int prefix = 0; prefix <= 2; prefix++) {
                    for (int mask = 0; mask < 4; mask++) {
                        everyNumberOfTwoBits(kinds, exact, prefix, mask);
                    }
                }
            }
        }
    }

    private static void everyNumberOfTwoBits(int kinds, int exact, int prefix, int mask) {
        EntryTable x = new EntryTable(3, kinds, 2);
        int[] bits = new int[3];
        int[] values = new int[3];
        for (int k = 0; k < 3; k++) {
            int kind = x.count(4 + k);
            bits[k] = new int[] {3, new int[] {0, 2, 3}[prefix], mask}[kind];
            values[k] = (kind == 0 ? exact : 2) & bits[k];
            x.match(k, values[k], kind == 1 ? prefix : mask);
        }
        String of = " of kinds " + kinds + " with " + exact + ", prefix " + prefix + ", mask " + mask;
        check.due("insert" + of, x.insert(0), 0);
        for (int n = 0; n < 64; n++) {
            int[] key = {n & 3, n >> 2 & 3, n >> 4};
            boolean matches = true;
            for (int k = 0; k < 3; k++) {
                matches &= ((key[k] ^ values[k]) & bits[k]) == 0;
            }
            check.due("find(" + key[0] + ", " + key[1] + ", " + key[2] + ")" + of,
                    x.find(key[0], key[1], key[2]), matches ? 0 : EntryTable.NONE);
        }
    }

    private static void ofThoseThatMatchOneCounts() {
        check.sentence("of those that match one counts");
        EntryTable x = new EntryTable(3, 0 + 3 + 18, 4);
        for (int i = 0; i < 24; i++) {
            int prefix = i % 5;
            int mask = i % 16;
            x.match(0, 5, 0);
            x.match(1, 12 >> 4 - prefix << 4 - prefix, prefix);
            x.match(2, 10 & mask, mask);
            check.due("insert", x.insert(i % 3), i);
        }
        for (int i = 0; i < 24; i++) {
            int one = x.nth(0);
            check.due("find(5, 12, 10)", x.find(5, 12, 10), one);
            check.due("hits(" + one + ")", x.hits(one), 1);
            check.due("hits of the next", x.hits(x.nth(1)), i < 23 ? 0 : EntryTable.NONE);
            check.due("remove(" + one + ")", x.remove(one), 23 - i);
        }
    }

    private static int insertPrefixIn(EntryTable x, int k, int prefix, int priority) {
        x.match(k, 0, prefix);
        return x.insert(priority);
    }

    private static void thePrefixMayBeOfAnyKey() {
        check.sentence("Of several that of the longest prefix COUNTS (whichever key it is of)");
        for (int keys = 1; keys <= 3; keys++) {
            for (int k = 0; k < keys; k++) {
                EntryTable x = new EntryTable(keys, new int[] {1, 3, 9}[k], 8);
                check.due("insert", insertPrefixIn(x, k, 1, 7), 0);
                check.due("insert", insertPrefixIn(x, k, 8, 5), 1);
                check.due("insert", insertPrefixIn(x, k, 0, 9), 2);
                check.due("insert", insertPrefixIn(x, k, 2, 6), 3);
                check.due("insert again", insertPrefixIn(x, k, 2, 6), EntryTable.THERE);
                int[] order = {1, 3, 0, 2};
                for (int rank = 0; rank < 4; rank++) {
                    String of = " with the prefix of key " + k + " of " + keys;
                    check.due("nth(" + rank + ")" + of, x.nth(rank), order[rank]);
                }
                for (int rank = 0; rank < 4; rank++) {
                    check.due("find(0, 0, 0)", x.find(0, 0, 0), order[rank]);
                    check.due("remove", x.remove(order[rank]), 3 - rank);
                }
            }
        }
    }

    private static void everyPairCountsInItsOrder() {
        check.sentence("the longest prefix COUNTS, then that of the greatest priority, then the oldest one");
        int[] priorities = {Integer.MIN_VALUE, -1, 0, 1, Integer.MAX_VALUE};
        for (int first = 0; first < 20; first++) {
            for (int second = 0; second < 20; second++) {
                onePair(first / 5, priorities[first % 5], second / 5, priorities[second % 5]);
            }
        }
    }

    /** Other masks make them two entries even if all else is the same; 0 matches both. */
    private static void onePair(int prefix, int priority, int secondPrefix, int secondPriority) {
        EntryTable x = new EntryTable(2, 1 + 6, 3);
        x.match(0, 0, prefix);
        x.match(1, 0, 1);
        check.due("insert", x.insert(priority), 0);
        x.match(0, 0, secondPrefix);
        x.match(1, 0, 2);
        check.due("insert", x.insert(secondPriority), 1);
        boolean secondCounts = secondPrefix > prefix
                || secondPrefix == prefix && secondPriority > priority;
        String of = " of prefix " + prefix + " and priority " + priority + ", then " + secondPrefix
                + " and " + secondPriority;
        check.due("find(0, 0, 0)" + of, x.find(0, 0, 0), secondCounts ? 1 : 0);
        check.due("nth(0)" + of, x.nth(0), secondCounts ? 1 : 0);
        check.due("nth(1)" + of, x.nth(1), secondCounts ? 0 : 1);
    }

    private static void eachKeyHasAMaskOfItsOwn() {
        check.sentence("have of each key a value and a prefix or a mask");
        EntryTable x = new EntryTable(3, 26, 8);
        x.match(0, 1, 3);
        x.match(1, 4, 12);
        x.match(2, 16, 48);
        check.due("insert", x.insert(0), 0);
        for (int k = 0; k < 3; k++) {
            for (int bit = 0; bit < 8; bit++) {
                long[] key = {1, 4, 16};
                key[k] ^= 1L << bit;
                boolean isOfMask = bit / 2 == k;
                check.due("find with other bit " + bit + " of key " + k, x.find(key[0], key[1], key[2]),
                        isOfMask ? EntryTable.NONE : 0);
            }
        }
    }

    private static void entriesWithOtherMasksOfAnyKeyAreOthers() {
        check.sentence("THERE if there is one with the same masks (of all the keys)");
        for (int keys = 1; keys <= 3; keys++) {
            EntryTable x = new EntryTable(keys, 26, 8);
            check.due("insert", x.insert(0), 0);
            for (int k = 0; k < 3; k++) {
                x.match(k, 0, 128);
                check.due("insert with another mask of key " + k + " of " + keys, x.insert(0),
                        k < keys ? k + 1 : EntryTable.THERE);
                x.match(k, 0, 128);
                check.due("insert of that again", x.insert(0), EntryTable.THERE);
                x.match(k, 0, 0);
            }
        }
    }

    private static void objectsStandApart() {
        check.sentence("A new object (others stand apart from it)");
        EntryTable x = new EntryTable(2, 1, 8);
        EntryTable y = new EntryTable(3, 2, 48);
        x.match(0, 128, 1);
        y.match(0, 1, 1);
        check.due("insert in the first", x.insert(5), 0);
        check.due("count(2) of the second", y.count(2), 0);
        check.due("insert in the second", y.insert(6), 0);
        check.due("insert in the second", y.insert(6), 1);
        check.due("find in the first", x.find(255, 0, 0), 0);
        check.due("find in the second", y.find(2, 7, 0), EntryTable.NONE);
        check.due("hits(0) of the first", x.hits(0), 1);
        check.due("hits(0) of the second", y.hits(0), 0);
        check.due("count(3) of the first", x.count(3), 0);
        check.due("count(3) of the second", y.count(3), 1);
        check.due("remove(0) of the second", y.remove(0), 1);
        check.due("nth(0) of the first", x.nth(0), 0);
        check.due("nth(0) of the second", y.nth(0), 1);
        check.due("K of the first", x.count(0), 2);
        check.due("W of the first", x.count(1), 8);
        check.due("kind of key 0 of the first", x.count(4), 1);
        check.due("insert in the first", x.insert(5), 1);
    }

    private static void newObjectsBeginAnew() {
        check.sentence("A new object (nothing is left of those before)");
        String first = Seen.of(new EntryTable(2, 5, 8), 24);
        EntryTable used = new EntryTable(2, 5, 8);
        for (int i = 0; i < 24; i++) {
            used.insert(i);
            used.find(0, 0, 0);
        }
        used.match(0, 9, 9);
        EntryTable x = new EntryTable(2, 5, 8);
        check.same("a new table", Seen.of(x, 24), first);
        check.due("insert", x.insert(0), 0);
        check.due("find(0, 0, 0)", x.find(0, 0, 0), 0);
    }

    private static void aKeyThatIsNotToldAgainStays() {
        check.sentence("Key k of the entry that is made up (of the others it says nothing)");
        for (int again = 0; again < 3; again++) {
            EntryTable x = new EntryTable(3, 26, 8);
            x.match(0, 1, 1);
            x.match(1, 2, 2);
            x.match(2, 4, 4);
            x.match(again, 128, 128);
            check.due("insert", x.insert(0), 0);
            long[] key = {1, 2, 4};
            key[again] = 128;
            check.due("find of what was told", x.find(key[0], key[1], key[2]), 0);
            for (int k = 0; k < 3; k++) {
                long[] other = key.clone();
                other[k] = 0;
                check.due("find without key " + k, x.find(other[0], other[1], other[2]), EntryTable.NONE);
            }
        }
    }

    private static void onlyMatchAndInsertChangeTheEntryMadeUp() {
        check.sentence("the entry that is made up (stays as it was told whatever else is called)");
        for (int argument : new int[] {0, 1, 5, -1, 7, Integer.MIN_VALUE, Integer.MAX_VALUE}) {
            for (int call = 0; call < 6; call++) {
                EntryTable x = new EntryTable(3, 1 + 6, 8);
                check.due("insert", x.insert(0), 0);
                check.due("insert", x.insert(1), 1);
                x.match(0, 128, 1);
                x.match(1, 2, 2);
                x.match(2, 3, 0);
                anotherCall(x, call, argument);
                String of = " after call " + call + " with " + argument;
                check.due("insert" + of, x.insert(2), 2);
                check.due("find of what was told" + of, x.find(128, 2, 3), 2);
                check.due("find without key 0" + of, x.find(0, 2, 3), EntryTable.NONE);
                check.due("find without key 1" + of, x.find(128, 0, 3), EntryTable.NONE);
                check.isTrue("find without key 2" + of, x.find(128, 2, 0) != 2);
            }
        }
    }

    private static void anotherCall(EntryTable x, int call, int argument) {
        switch (call) {
            case 0 -> x.remove(argument);
            case 1 -> x.find(argument, argument, argument);
            case 2 -> x.find(argument, argument, 0);
            case 3 -> x.nth(argument);
            case 4 -> x.hits(argument);
            default -> x.count(argument);
        }
    }

    private static void othersStayAsTheyWereWhenOneGoes() {
        check.sentence("An entry goes (no other one)");
        for (int gone = 0; gone < 24; gone++) {
            EntryTable x = new EntryTable(2, 2 + 3, 8);
            for (int i = 0; i < 24; i++) {
                x.match(0, i, 31);
                x.match(1, 0, i % 9);
                check.due("insert", x.insert(i % 4), i);
            }
            check.due("remove(" + gone + ")", x.remove(gone), 23);
            x.match(0, 64, 64);
            check.due("insert", x.insert(0), 24);
            for (int i = 0; i < 24; i++) {
                int want = i == gone ? EntryTable.NONE : i;
                check.due("find(" + i + ") without " + gone, x.find(i, 0, 0), want);
            }
            check.due("find of the new one", x.find(64 + 31, 255, 0), 24);
        }
    }

    private static void whatComesAgainIsTheYoungest() {
        check.sentence("then the oldest one (not what went and came again)");
        EntryTable x = new EntryTable(1, 2, 8);
        for (int i = 0; i < 3; i++) {
            x.match(0, 0, i);
            check.due("insert", x.insert(4), i);
        }
        check.due("remove(0)", x.remove(0), 2);
        check.due("insert of the same", x.insert(4), 3);
        int[] order = {1, 2, 3};
        for (int k = 0; k < 3; k++) {
            check.due("nth(" + k + ")", x.nth(k), order[k]);
        }
        check.due("find(0, 0, 0)", x.find(0, 0, 0), 1);
    }

    private static void noneIsFoundAsOftenAsFindSaysSo() {
        check.sentence("3: how often none was found (entries come and go)");
        EntryTable x = new EntryTable(1, 0, 8);
        check.due("find in an empty table", x.find(0, 0, 0), EntryTable.NONE);
        check.due("insert", x.insert(0), 0);
        check.due("count(3) when one came", x.count(3), 1);
        check.due("find(0, 0, 0)", x.find(0, 0, 0), 0);
        check.due("count(3) when one was found", x.count(3), 1);
        check.due("remove(0)", x.remove(0), 0);
        check.due("count(3) when it went", x.count(3), 1);
        check.due("find(0, 0, 0)", x.find(0, 0, 0), EntryTable.NONE);
        check.due("count(3)", x.count(3), 2);
        x.match(0, 256, 0);
        check.due("insert of what is wrong", x.insert(0), EntryTable.REFUSED);
        check.due("count(3)", x.count(3), 2);
    }

    private static void hitsGoOnWhileOthersCountMore() {
        check.sentence("How often an entry was found by find (before and after another counted)");
        EntryTable x = new EntryTable(1, 0, 8);
        x.insert(0);
        x.find(0, 0, 0);
        x.find(0, 0, 0);
        x.insert(1);
        x.find(0, 0, 0);
        check.due("hits(0) while 1 counts", x.hits(0), 2);
        x.remove(1);
        x.find(0, 0, 0);
        check.due("hits(0) when 1 went", x.hits(0), 3);
    }

    private static void insertAndRemoveFindNothing() {
        check.sentence("How often an entry was found by find (not by insert or remove)");
        EntryTable x = new EntryTable(1, 0, 8);
        for (int i = 0; i < 24; i++) {
            check.due("insert", x.insert(i), i);
            check.due("insert again", x.insert(i), EntryTable.THERE);
        }
        check.due("insert with 24", x.insert(24), EntryTable.FULL);
        for (int i = 0; i < 23; i++) {
            check.due("remove(" + i + ")", x.remove(i), 23 - i);
            check.due("hits(23)", x.hits(23), 0);
        }
        check.due("count(3)", x.count(3), 0);
    }
}
