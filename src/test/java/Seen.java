/** What can be seen of a table by calls that change nothing, to tell whether another call did. */
final class Seen {
    private Seen() {
    }

    /** It takes 33 calls and one for each of the numbers: an object is good for 512 in all. */
    static String of(EntryTable x, int numbers) {
        StringBuilder all = new StringBuilder("count");
        for (int what = 0; what < 7; what++) {
            all.append(' ').append(x.count(what));
        }
        all.append(", nth");
        for (int k = -1; k < 25; k++) {
            all.append(' ').append(x.nth(k));
        }
        all.append(", hits");
        for (int entry = 0; entry < numbers; entry++) {
            all.append(' ').append(x.hits(entry));
        }
        return all.toString();
    }
}
