public final class Promise6NthTest {
    private static final Check check = new Check();

    public static void main(String[] args) {
        tellsTheOrderInWhichTheyCount();
        prioritiesOfAllSizesAreOrdered();
        masksDecideNothing();
        noneBeyondTheEnds();
        check.end();
    }

    private static void tellsTheOrderInWhichTheyCount() {
        EntryTable x = new EntryTable(2, 3, 8);
        add(x, 1, 0, 9);
        add(x, 2, 8, -9);
        add(x, 3, 4, 1);
        add(x, 4, 4, 2);
        add(x, 5, 4, 1);
        add(x, 6, 8, -9);
        add(x, 7, 8, -8);
        add(x, 8, 0, 9);
        order(x, 6, 1, 5, 3, 2, 4, 0, 7);
        x.remove(5);
        x.remove(2);
        order(x, 6, 1, 3, 4, 0, 7);
        add(x, 3, 4, 1);
        order(x, 6, 1, 3, 4, 8, 0, 7);
    }

    private static void add(EntryTable x, long value, long prefix, int priority) {
        x.match(0, value, 0);
        x.match(1, 0, prefix);
        check.isTrue("an entry comes", x.insert(priority) >= 0);
    }

    private static void order(EntryTable x, int... numbers) {
        for (int k = 0; k < numbers.length; k++) {
            check.due("nth(" + k + ")", x.nth(k), numbers[k]);
        }
        check.due("nth of the end", x.nth(numbers.length), EntryTable.NONE);
    }

    private static void prioritiesOfAllSizesAreOrdered() {
        EntryTable x = new EntryTable(1, 0, 8);
        x.insert(Integer.MIN_VALUE);
        x.insert(Integer.MAX_VALUE);
        x.insert(0);
        x.insert(-1);
        x.insert(1);
        order(x, 1, 4, 2, 3, 0);
    }

    private static void masksDecideNothing() {
        EntryTable x = new EntryTable(1, 2, 8);
        for (int mask = 0; mask < 5; mask++) {
            x.match(0, 0, mask * 50);
            x.insert(0);
        }
        order(x, 0, 1, 2, 3, 4);
    }

    private static void noneBeyondTheEnds() {
        EntryTable x = new EntryTable(1, 0, 8);
        int[] wrong = {-1, 24, 25, Integer.MIN_VALUE, Integer.MAX_VALUE};
        for (int i = 0; i < 24; i++) {
            x.insert(i);
        }
        for (int k : wrong) {
            check.due("nth(" + k + ")", x.nth(k), EntryTable.NONE);
        }
        check.due("nth(0)", x.nth(0), 23);
        check.due("nth(23)", x.nth(23), 0);
    }
}
