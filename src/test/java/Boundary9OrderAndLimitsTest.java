/** The boundary cases that promise 9 names. */
public final class Boundary9OrderAndLimitsTest {
    private static final Check check = new Check();
    private static final long[] ANY = {0, 1, 4, 8, 9, 255, 256, -1, 1L << 32, Long.MIN_VALUE, Long.MAX_VALUE};

    public static void main(String[] args) {
        exactIsNotLookedAtBesidesItsValueByInsert();
        exactIsNotLookedAtBesidesItsValueByFind();
        exactIsNotLookedAtBesidesItsValueInTheOrder();
        itMakesNoOtherEntry();
        itMakesNoOtherEntryInATableOf24();
        aSecondPrefixMakesNoOtherEntry();
        notGivenAgainWhenTheLastCameAndWent();
        notGivenAgainWhenTheFirstWent();
        notGivenAgainWhenAllWent();
        notGivenAgainForTheSameEntry();
        failedInsertsTakeNoNumber();
        check.end();
    }

    private static void exactIsNotLookedAtBesidesItsValueByInsert() {
        check.sentence("Of an EXACT key what match() says besides its value is not looked at (by insert)");
        for (int k = 0; k < 3; k++) {
            for (long mask : ANY) {
                EntryTable x = new EntryTable(3, 0, 8);
                x.match(k, 255, mask);
                check.due("insert with mask " + mask + " of key " + k, x.insert(0), 0);
            }
        }
    }

    private static void exactIsNotLookedAtBesidesItsValueByFind() {
        check.sentence("Of an EXACT key what match() says besides its value is not looked at (by find)");
        for (long mask : ANY) {
            EntryTable x = new EntryTable(1, 0, 8);
            x.match(0, 85, mask);
            check.due("insert", x.insert(0), 0);
            for (int key = 0; key < 256; key++) {
                check.due("find(" + key + ") with mask " + mask, x.find(key, 0, 0),
                        key == 85 ? 0 : EntryTable.NONE);
            }
        }
    }

    private static void exactIsNotLookedAtBesidesItsValueInTheOrder() {
        check.sentence("Of an EXACT key what match() says besides its value is not looked at (in the order)");
        for (int kinds : new int[] {0, 2, 1}) {
            EntryTable x = new EntryTable(2, kinds, 8);
            for (int i = 0; i < ANY.length; i++) {
                x.match(1, i, ANY[i]);
                check.due("insert", x.insert(0), i);
            }
            for (int k = 0; k < ANY.length; k++) {
                check.due("nth(" + k + ") of kinds " + kinds, x.nth(k), k);
            }
        }
    }

    private static void itMakesNoOtherEntry() {
        check.sentence("and makes no other entry");
        for (int k = 0; k < 3; k++) {
            for (long first : ANY) {
                EntryTable x = new EntryTable(3, 0, 8);
                x.match(k, 7, first);
                check.due("insert", x.insert(0), 0);
                for (long second : ANY) {
                    x.match(k, 7, second);
                    String of = " with mask " + first + ", then " + second + " of key " + k;
                    check.due("insert" + of, x.insert(0), EntryTable.THERE);
                }
                check.due("count(2)", x.count(2), 1);
            }
        }
    }

    private static void itMakesNoOtherEntryInATableOf24() {
        check.sentence("and makes no other entry (with 24)");
        EntryTable x = new EntryTable(1, 0, 8);
        for (int i = 0; i < 24; i++) {
            x.match(0, i, i);
            x.insert(0);
        }
        for (int i = 0; i < 24; i++) {
            x.match(0, i, i + 1);
            check.due("insert", x.insert(0), EntryTable.THERE);
        }
    }

    private static void aSecondPrefixMakesNoOtherEntry() {
        check.sentence("Of an EXACT key (a second PREFIX)");
        EntryTable x = new EntryTable(3, 13, 8);
        x.match(0, 128, 1);
        x.match(1, 7, 0);
        x.match(2, 7, 0);
        check.due("insert", x.insert(0), 0);
        for (long mask : ANY) {
            x.match(0, 128, 1);
            x.match(1, 7, mask);
            x.match(2, 7, mask);
            check.due("insert with prefix " + mask, x.insert(0), EntryTable.THERE);
        }
        x.match(0, 128, 2);
        check.due("insert with another first prefix", x.insert(0), 1);
    }

    private static void notGivenAgainWhenTheLastCameAndWent() {
        check.sentence("The number of an entry that went is not given again (the greatest)");
        EntryTable x = new EntryTable(1, 0, 8);
        x.insert(0);
        x.insert(1);
        for (int i = 2; i < 100; i++) {
            check.due("insert", x.insert(i), i);
            check.due("remove", x.remove(i), 2);
        }
    }

    private static void notGivenAgainWhenTheFirstWent() {
        check.sentence("The number of an entry that went is not given again (the least)");
        EntryTable x = new EntryTable(1, 0, 8);
        for (int i = 0; i < 24; i++) {
            x.insert(i);
        }
        for (int i = 24; i < 200; i++) {
            check.due("remove", x.remove(i - 24), 23);
            check.due("insert", x.insert(i), i);
        }
    }

    private static void notGivenAgainWhenAllWent() {
        check.sentence("The number of an entry that went is not given again (all went)");
        EntryTable x = new EntryTable(1, 0, 8);
        for (int round = 0; round < 5; round++) {
            for (int i = 0; i < 24; i++) {
                check.due("insert", x.insert(i), round * 24 + i);
            }
            for (int i = 0; i < 24; i++) {
                check.due("remove", x.remove(round * 24 + i), 23 - i);
            }
        }
    }

    private static void notGivenAgainForTheSameEntry() {
        check.sentence("The number of an entry that went is not given again (the same comes again)");
        EntryTable x = new EntryTable(1, 2, 8);
        for (int i = 0; i < 100; i++) {
            x.match(0, 3, 7);
            check.due("insert", x.insert(1), i);
            check.due("find", x.find(3, 0, 0), i);
            check.due("remove", x.remove(i), 0);
            check.due("remove again", x.remove(i), EntryTable.NONE);
        }
    }

    private static void failedInsertsTakeNoNumber() {
        check.sentence("numbered from 0 as they come (those that did not come take none)");
        EntryTable x = new EntryTable(1, 0, 8);
        for (int i = 0; i < 24; i++) {
            x.match(0, 256, 0);
            check.due("insert of what is wrong", x.insert(i), EntryTable.REFUSED);
            x.match(0, 0, 0);
            check.due("insert", x.insert(i), i);
            check.due("insert of what is there", x.insert(i), EntryTable.THERE);
            check.due("remove of what is not there", x.remove(i + 1), EntryTable.NONE);
        }
        check.due("insert with 24", x.insert(24), EntryTable.FULL);
        check.due("remove(0)", x.remove(0), 23);
        check.due("insert", x.insert(24), 24);
    }
}
