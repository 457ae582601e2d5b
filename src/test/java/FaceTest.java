import java.lang.reflect.Constructor;
import java.lang.reflect.Executable;
import java.lang.reflect.Field;
import java.lang.reflect.Method;
import java.lang.reflect.Modifier;
import java.util.Arrays;
import java.util.TreeSet;

/** The public face: all of it, and nothing else that is not private. */
public final class FaceTest {
    public static void main(String[] args) {
        constants();
        theClass();
        members();
        memory();
        Check.finish();
    }

    private static void constants() {
        Check.sentence("public static final int NONE = -1, BAD = -2, LONG = -3");
        Check.same("NONE", ListWords.NONE, -1);
        Check.same("BAD", ListWords.BAD, -2);
        Check.same("LONG", ListWords.LONG, -3);
    }

    private static void theClass() {
        Check.sentence("public final class ListWords");
        Check.same("class", Modifier.toString(ListWords.class.getModifiers()), "public final");
        Check.same("name", ListWords.class.getName(), "ListWords");
        Check.same("class above", ListWords.class.getSuperclass(), Object.class);
        Check.same("interfaces", ListWords.class.getInterfaces().length, 0);
        Check.same("generic parameters", ListWords.class.getTypeParameters().length, 0);
        for (Class<?> inside : ListWords.class.getDeclaredClasses()) {
            String how = Modifier.toString(inside.getModifiers());
            Check.same(inside + " is public or protected", how.matches(".*(public|protected).*"), false);
            Check.same(inside + " is static", how.contains("static"), true);
        }
    }

    private static void members() {
        Check.sentence("The public face");
        TreeSet<String> due = new TreeSet<>(Arrays.asList(
            "public static final int NONE", "public static final int BAD", "public static final int LONG",
            "public ListWords []",
            "public boolean feed [int, int, int, int, int]", "public boolean end [int]",
            "public int list []", "public int item []", "public int count []", "public int element [int]",
            "public int append []", "public int again []", "public int wrap []",
            "public int listAt [int]", "public int itemAt [int]"));
        Check.same("members", openMembers(), due);
        for (Method m : ListWords.class.getMethods()) {
            boolean own = m.getDeclaringClass() == ListWords.class || m.getDeclaringClass() == Object.class;
            Check.same(m.getName() + " is the class's own or every object's", own, true);
        }
    }

    private static void memory() {
        Check.sentence("All memory is the class's own");
        for (Field f : ListWords.class.getDeclaredFields()) {
            if (Modifier.isStatic(f.getModifiers())) {
                boolean constant = Modifier.isFinal(f.getModifiers())
                    && (f.getType() == int.class || f.getType() == String.class);
                Check.same(f.getName() + ", which all objects share, is a constant", constant, true);
            }
        }
    }

    private static TreeSet<String> openMembers() {
        TreeSet<String> found = new TreeSet<>();
        for (Field f : ListWords.class.getDeclaredFields()) {
            if (!Modifier.isPrivate(f.getModifiers())) {
                found.add(Modifier.toString(f.getModifiers()) + " " + f.getType() + " " + f.getName());
            }
        }
        for (Constructor<?> c : ListWords.class.getDeclaredConstructors()) {
            found.add(Modifier.toString(c.getModifiers()) + " " + c.getName() + " " + parameters(c));
        }
        for (Method m : ListWords.class.getDeclaredMethods()) {
            if (!Modifier.isPrivate(m.getModifiers())) {
                found.add(Modifier.toString(m.getModifiers()) + " " + m.getReturnType() + " " + m.getName()
                    + " " + parameters(m));
            }
        }
        return found;
    }

    private static String parameters(Executable e) {
        String all = Arrays.toString(e.getParameterTypes());
        return e.getExceptionTypes().length == 0 ? all : all + " throws " + Arrays.toString(e.getExceptionTypes());
    }
}
