import java.util.ArrayList;
import java.util.Arrays;
import java.util.List;

/** What the tests share: telling wrong answers, and handing texts in and out, a char for each byte. */
final class Check {
    private static int wrong = 0;
    private static String sentence = "";

    private Check() {
    }

    /** The words of the document that the checks from here on hold the class to. */
    static void sentence(String words) {
        sentence = "[" + words + "] ";
    }

    static void same(String what, Object got, Object due) {
        if (!due.equals(got)) {
            wrong++;
            System.out.println(sentence + what + ": got " + shown(got) + ", due is " + shown(due));
        }
    }

    static void finish() {
        System.out.println(wrong == 0 ? "all answers are as due" : wrong + " answers are not as due");
        if (wrong != 0) {
            System.exit(1);
        }
    }

    /** Makes the tape the text. The odd bytes go first, so that a text of 1024 bytes can be fed, too. */
    static void tape(ListWords x, String text) {
        x.end(0);
        int odd = text.length() % 20;
        if (odd > 0) {
            feed(x, text, 0);
            x.end(odd);
        }
        for (int i = odd; i < text.length(); i += 20) {
            feed(x, text, i);
        }
    }

    static boolean feed(ListWords x, String text, int from) {
        return x.feed(number(text, from), number(text, from + 4), number(text, from + 8),
            number(text, from + 12), number(text, from + 16));
    }

    private static int number(String text, int from) {
        int number = 0;
        for (int i = from; i < from + 4; i++) {
            number = number << 8 | (i < text.length() ? text.charAt(i) : 0);
        }
        return number;
    }

    static int list(ListWords x, String text) {
        tape(x, text);
        return x.list();
    }

    static int item(ListWords x, String text) {
        tape(x, text);
        return x.item();
    }

    static ListWords withList(String text) {
        ListWords x = new ListWords();
        list(x, text);
        return x;
    }

    /** Only for texts so short that the object's 512 calls are enough; Scene looks at longer ones. */
    static String listOf(ListWords x) {
        StringBuilder text = new StringBuilder();
        for (int i = 0; x.listAt(i) != ListWords.NONE; i++) {
            text.append((char) x.listAt(i));
        }
        return text.toString();
    }

    static String itemOf(ListWords x) {
        StringBuilder text = new StringBuilder();
        for (int i = 0; x.itemAt(i) != ListWords.NONE; i++) {
            text.append((char) x.itemAt(i));
        }
        return text.toString();
    }

    /** The elements of the text as the class reads them, or BAD. */
    static Object elements(String text) {
        ListWords x = withList(text);
        int count = x.count();
        if (count == ListWords.BAD) {
            return ListWords.BAD;
        }
        List<String> elements = new ArrayList<>();
        for (int k = 0; k < count; k++) {
            int size = x.element(k);
            String element = itemOf(x);
            same("size of element " + k + " of " + shown(text), size, element.length());
            elements.add(element);
        }
        return elements;
    }

    static void reads(String text, String... due) {
        same("elements of " + shown(text), elements(text), Arrays.asList(due));
    }

    static void isBad(String text) {
        same("elements of " + shown(text), elements(text), ListWords.BAD);
    }

    static boolean isSpace(int b) {
        return " \t\n\u000b\f\r".indexOf(b) >= 0;
    }

    static String shown(Object o) {
        String text = String.valueOf(o);
        if (text.length() > 80) {
            return shown(text.substring(0, 60)) + ".. (" + text.length() + " in all)";
        }
        StringBuilder out = new StringBuilder();
        for (char c : text.toCharArray()) {
            out.append(c >= 32 && c < 127 ? String.valueOf(c) : "<" + (int) c + ">");
        }
        return out.toString();
    }
}
