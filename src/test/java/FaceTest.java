import java.lang.reflect.Constructor;
import java.lang.reflect.Field;
import java.lang.reflect.Method;
import java.lang.reflect.Modifier;
import java.util.Set;
import java.util.TreeSet;

/** The class shows the document's face and nothing else. */
public final class FaceTest {
    private static final Check check = new Check();

    public static void main(String[] args) {
        Set<String> shown = new TreeSet<>();
        Set<String> hidden = new TreeSet<>();
        for (Field f : EntryTable.class.getDeclaredFields()) {
            boolean isPrivate = Modifier.isPrivate(f.getModifiers());
            if (!isPrivate) {
                shown.add(f.toString());
            }
            check.isTrue(f + " is final if static",
                    !Modifier.isStatic(f.getModifiers()) || Modifier.isFinal(f.getModifiers()));
        }
        for (Constructor<?> c : EntryTable.class.getDeclaredConstructors()) {
            shown.add(c.toString());
        }
        Set<String> names = new TreeSet<>();
        for (Method m : EntryTable.class.getDeclaredMethods()) {
            if (Modifier.isPrivate(m.getModifiers())) {
                hidden.add(m.getName());
            } else {
                shown.add(m.toString());
                names.add(m.getName());
            }
        }
        hidden.retainAll(names);
        check.isTrue("no private method bears a public name: " + hidden, hidden.isEmpty());
        Set<String> due = new TreeSet<>(Set.of(
                "public static final int EntryTable.REFUSED",
                "public static final int EntryTable.NONE",
                "public static final int EntryTable.FULL",
                "public static final int EntryTable.THERE",
                "public EntryTable(int,int,int)",
                "public int EntryTable.match(int,long,long)",
                "public int EntryTable.insert(int)",
                "public int EntryTable.remove(int)",
                "public int EntryTable.find(long,long,long)",
                "public int EntryTable.nth(int)",
                "public int EntryTable.hits(int)",
                "public int EntryTable.count(int)"));
        check.isTrue("the face is " + shown, shown.equals(due));
        check.isTrue("the class is public and final",
                EntryTable.class.getModifiers() == (Modifier.PUBLIC | Modifier.FINAL));
        check.due("REFUSED", EntryTable.REFUSED, -1);
        check.due("NONE", EntryTable.NONE, -2);
        check.due("FULL", EntryTable.FULL, -3);
        check.due("THERE", EntryTable.THERE, -4);
        check.same("what a switch makes of -1 to -4", name(-1) + name(-2) + name(-3) + name(-4),
                "refused none full there ");
        check.end();
    }

    /** It compiles only while the four are constants that a switch may name. */
    private static String name(int answer) {
        switch (answer) {
            case EntryTable.REFUSED: return "refused ";
            case EntryTable.NONE: return "none ";
            case EntryTable.FULL: return "full ";
            case EntryTable.THERE: return "there ";
            default: return "another ";
        }
    }
}
