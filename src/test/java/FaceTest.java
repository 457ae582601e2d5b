import java.lang.reflect.Constructor;
import java.lang.reflect.Field;
import java.lang.reflect.Method;
import java.lang.reflect.Modifier;
import java.util.Arrays;
import java.util.TreeSet;

/** The public face: all of it, and nothing else that is not private. */
public final class FaceTest {
    public static void main(String[] args) {
        Check.same("NONE", ListWords.NONE, -1);
        Check.same("BAD", ListWords.BAD, -2);
        Check.same("LONG", ListWords.LONG, -3);
        Check.same("class", Modifier.toString(ListWords.class.getModifiers()), "public final");
        TreeSet<String> due = new TreeSet<>(Arrays.asList(
            "public static final int NONE", "public static final int BAD", "public static final int LONG",
            "public ListWords []",
            "public boolean feed [int, int, int, int, int]", "public boolean end [int]",
            "public int list []", "public int item []", "public int count []", "public int element [int]",
            "public int append []", "public int again []", "public int wrap []",
            "public int listAt [int]", "public int itemAt [int]"));
        Check.same("members", openMembers(), due);
        Check.finish();
    }

    private static TreeSet<String> openMembers() {
        TreeSet<String> found = new TreeSet<>();
        for (Field f : ListWords.class.getDeclaredFields()) {
            if (!Modifier.isPrivate(f.getModifiers())) {
                found.add(Modifier.toString(f.getModifiers()) + " " + f.getType() + " " + f.getName());
            }
        }
        for (Constructor<?> c : ListWords.class.getDeclaredConstructors()) {
            found.add(Modifier.toString(c.getModifiers()) + " " + c.getName()
                + " " + Arrays.toString(c.getParameterTypes()));
        }
        for (Method m : ListWords.class.getDeclaredMethods()) {
            if (!Modifier.isPrivate(m.getModifiers())) {
                found.add(Modifier.toString(m.getModifiers()) + " " + m.getReturnType() + " " + m.getName()
                    + " " + Arrays.toString(m.getParameterTypes()));
            }
        }
        return found;
    }
}
