import java.util.ArrayList;
import java.util.List;
import java.util.regex.Matcher;
import java.util.regex.Pattern;

/** The document once more, told with strings and patterns: what RandomRunsTest holds the class against. */
final class Model {
    private static final String SPACE = "[ \\t-\\r]";
    private static final String ESCAPE = "\\\\(?:x[0-9a-fA-F]{1,2}|[0-7]{1,3}|\\n[ \\t]*|.|\\z)";
    private static final Pattern SPACES = Pattern.compile(SPACE + "*");
    private static final Pattern QUOTED = dotted("\"((?:" + ESCAPE + "|[^\"\\\\])*+)\"(?=" + SPACE + "|\\z)");
    private static final Pattern BARE = dotted("((?![{\"])(?:" + ESCAPE + "|[^ \\t-\\r\\\\])++)");
    private static final Pattern BRACE_STEP = dotted("\\\\.|[^\\\\]");
    private static final Pattern ESCAPES = dotted(ESCAPE);
    private static final String MARKED = "[ \\t-\\r\"$;\\[\\\\\\]{}]|^#";

    String tape = "";
    String list = "";
    String item = "";

    private static Pattern dotted(String pattern) {
        return Pattern.compile(pattern, Pattern.DOTALL);
    }

    boolean feed(String twenty) {
        boolean fits = tape.length() + 20 <= 1024;
        tape += fits ? twenty : "";
        return fits;
    }

    boolean end(int n) {
        boolean has = n >= 0 && n <= tape.length();
        tape = has ? tape.substring(0, n) : tape;
        return has;
    }

    int list() {
        list = tape;
        tape = "";
        return list.length();
    }

    int item() {
        item = tape;
        tape = "";
        return item.length();
    }

    int count() {
        List<String> elements = elements();
        return elements == null ? -2 : elements.size();
    }

    int element(int k) {
        List<String> elements = elements();
        if (elements == null) {
            return -2;
        }
        if (k < 0 || k >= elements.size()) {
            return -1;
        }
        item = elements.get(k);
        return item.length();
    }

    int append() {
        return becomes(list.isEmpty() ? written(item) : list + " " + written(item));
    }

    int again() {
        List<String> elements = elements();
        if (elements == null) {
            return -2;
        }
        List<String> all = new ArrayList<>();
        for (String element : elements) {
            all.add(written(element));
        }
        return becomes(String.join(" ", all));
    }

    int wrap() {
        item = list;
        list = "";
        return item.length();
    }

    private int becomes(String text) {
        if (text.length() > 1024) {
            return -3;
        }
        list = text;
        return list.length();
    }

    /** Null when the LIST is BAD. */
    private List<String> elements() {
        List<String> elements = new ArrayList<>();
        int at = behind(SPACES, 0);
        while (at < list.length()) {
            int end;
            if (list.charAt(at) == '{') {
                end = braceEnd(at);
                if (end < 0) {
                    return null;
                }
                elements.add(list.substring(at + 1, end - 1));
            } else {
                Matcher m = (list.charAt(at) == '"' ? QUOTED : BARE).matcher(list).region(at, list.length())
                    .useTransparentBounds(true);
                if (!m.lookingAt()) {
                    return null;
                }
                elements.add(ESCAPES.matcher(m.group(1)).replaceAll(
                    e -> Matcher.quoteReplacement(String.valueOf(meaning(e.group())))));
                end = m.end();
            }
            at = behind(SPACES, end);
        }
        return elements;
    }

    private int behind(Pattern pattern, int at) {
        Matcher m = pattern.matcher(list).region(at, list.length());
        return m.lookingAt() ? m.end() : at;
    }

    private int braceEnd(int at) {
        int depth = 0;
        Matcher m = BRACE_STEP.matcher(list).region(at, list.length());
        while (m.find()) {
            depth += m.group().equals("{") ? 1 : m.group().equals("}") ? -1 : 0;
            if (depth == 0) {
                boolean free = m.end() == list.length() || list.substring(m.end(), m.end() + 1).matches(SPACE);
                return free ? m.end() : -1;
            }
        }
        return -1;
    }

    private static char meaning(String escape) {
        String behind = escape.substring(1);
        if (behind.matches("x[0-9a-fA-F]+")) {
            return (char) Integer.parseInt(behind.substring(1), 16);
        }
        if (behind.matches("[0-7]+")) {
            return (char) (Integer.parseInt(behind, 8) % 256);
        }
        switch (behind.isEmpty() ? '\\' : behind.charAt(0)) {
            case '\\': return '\\';
            case 'a': return 7;
            case 'b': return 8;
            case 'f': return 12;
            case 'n': return 10;
            case 'r': return 13;
            case 't': return 9;
            case 'v': return 11;
            case '\n': return ' ';
            default: return behind.charAt(0);
        }
    }

    private static String written(String element) {
        if (element.isEmpty()) {
            return "{}";
        }
        if (!Pattern.compile(MARKED).matcher(element).find()) {
            return element;
        }
        if (element.indexOf('\\') < 0 && isBalanced(element)) {
            return "{" + element + "}";
        }
        return element.replaceAll(MARKED, "\\\\$0").replace("\t", "t").replace("\n", "n")
            .replace("\u000b", "v").replace("\f", "f").replace("\r", "r");
    }

    private static boolean isBalanced(String element) {
        String braces = element.replaceAll("[^{}]", "");
        while (braces.contains("{}")) {
            braces = braces.replace("{}", "");
        }
        return braces.isEmpty();
    }
}
