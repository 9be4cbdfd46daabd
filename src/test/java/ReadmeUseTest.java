/** The calls that README.md shows, with the answers that it tells beside them. */
public final class ReadmeUseTest {
    private static final Check check = new Check();

    public static void main(String[] args) {
        check.sentence("README.md, Use");
        EntryTable table = new EntryTable(2, 1, 8);
        check.due("match(0, 160, 4)", table.match(0, 160, 4), 0);
        check.due("match(1, 7, 0)", table.match(1, 7, 0), 1);
        check.due("insert(5)", table.insert(5), 0);
        check.due("match(1, 7, 0)", table.match(1, 7, 0), 1);
        check.due("insert(9)", table.insert(9), 1);
        check.due("find(165, 7, 0)", table.find(165, 7, 0), 0);
        check.due("find(16, 7, 0)", table.find(16, 7, 0), 1);
        check.due("find(165, 8, 0)", table.find(165, 8, 0), EntryTable.NONE);
        check.due("nth(0)", table.nth(0), 0);
        check.due("nth(1)", table.nth(1), 1);
        check.due("nth(2)", table.nth(2), EntryTable.NONE);
        check.due("hits(0)", table.hits(0), 1);
        check.due("count(2)", table.count(2), 2);
        check.due("count(3)", table.count(3), 1);
        check.due("remove(0)", table.remove(0), 1);
        check.due("hits(0)", table.hits(0), EntryTable.NONE);
        check.due("match(0, 161, 4)", table.match(0, 161, 4), 0);
        check.due("insert(5)", table.insert(5), EntryTable.REFUSED);
        check.due("match(0, 160, 4)", table.match(0, 160, 4), 0);
        check.due("insert(5)", table.insert(5), 2);
        check.due("match(1, 7, 0)", table.match(1, 7, 0), 1);
        check.due("insert(9)", table.insert(9), EntryTable.THERE);
        check.end();
    }
}
