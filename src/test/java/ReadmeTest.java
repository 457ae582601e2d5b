import java.lang.reflect.Method;
import java.lang.reflect.Modifier;
import java.nio.file.Files;
import java.nio.file.Path;
import java.util.Map;
import java.util.TreeSet;
import java.util.regex.Matcher;
import java.util.regex.Pattern;

/** README.md: what it says is what the class does. Runs its example; looks at its calls and constants. */
public final class ReadmeTest {
    private static final Pattern NEW = Pattern.compile("ListWords x = new ListWords\\(\\);");
    private static final Pattern CALL = Pattern.compile("x\\.(\\w+)\\(([^)]*)\\);\\s*// (-?\\w+)(?:: (.*))?");
    private static final Pattern STATE = Pattern.compile("the (LIST|ITEM) is \"(.*?)\"(?=[,.;]|$)");
    private static final Map<String, Integer> CONSTANTS =
        Map.of("NONE", ListWords.NONE, "BAD", ListWords.BAD, "LONG", ListWords.LONG);

    private ReadmeTest() {
    }

    public static void main(String[] args) throws Exception {
        String readme = Files.readString(Path.of("README.md"));
        example(readme);
        calls(readme);
        constants(readme);
        Check.finish();
    }

    private static void example(String readme) throws Exception {
        Check.sentence("README.md, the example");
        TreeSet<String> called = new TreeSet<>();
        ListWords x = null;
        String block = readme.substring(readme.indexOf("```java") + 7, readme.indexOf("```\n"));
        for (String line : block.strip().split("\n+")) {
            if (NEW.matcher(line).matches()) {
                x = new ListWords();
                continue;
            }
            Matcher m = CALL.matcher(line);
            Check.same("a line that can be run: " + line, m.matches(), true);
            Object due = CONSTANTS.containsKey(m.group(3)) ? CONSTANTS.get(m.group(3)) : m.group(3);
            Check.same(line, String.valueOf(answer(x, m.group(1), m.group(2))), due.toString());
            state(x, line, m.group(4) == null ? "" : m.group(4));
            called.add(m.group(1));
        }
        Check.same("the calls of the example", called, publicMethods());
    }

    private static Object answer(ListWords x, String name, String arguments) throws Exception {
        String[] words = arguments.isEmpty() ? new String[0] : arguments.split(", ");
        Class<?>[] types = new Class<?>[words.length];
        Object[] numbers = new Object[words.length];
        for (int i = 0; i < words.length; i++) {
            types[i] = int.class;
            numbers[i] = Long.decode(words[i]).intValue();
        }
        return ListWords.class.getMethod(name, types).invoke(x, numbers);
    }

    private static void state(ListWords x, String line, String said) {
        Matcher m = STATE.matcher(said);
        while (m.find()) {
            String text = m.group(1).equals("LIST") ? Check.listOf(x) : Check.itemOf(x);
            Check.same("the " + m.group(1) + " behind " + line, text, m.group(2));
        }
    }

    private static void calls(String readme) {
        Check.sentence("README.md, the calls");
        TreeSet<String> told = new TreeSet<>();
        Matcher m = Pattern.compile("(?m)^\\| `(\\w+)\\(([^)]*)\\)` \\|").matcher(readme);
        while (m.find()) {
            told.add(m.group(1));
        }
        Check.same("the calls of the table", told, publicMethods());
    }

    private static void constants(String readme) {
        Check.sentence("README.md, the constants");
        for (Map.Entry<String, Integer> constant : CONSTANTS.entrySet()) {
            String row = "| `" + constant.getKey() + "` | " + constant.getValue() + " |";
            Check.same("a row " + row, readme.contains(row), true);
        }
    }

    private static TreeSet<String> publicMethods() {
        TreeSet<String> names = new TreeSet<>();
        for (Method m : ListWords.class.getDeclaredMethods()) {
            if (Modifier.isPublic(m.getModifiers())) {
                names.add(m.getName());
            }
        }
        return names;
    }
}
