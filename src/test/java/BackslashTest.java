/** Terms: what a backslash and the bytes behind it mean in quotes and in bare elements. */
public final class BackslashTest {
    public static void main(String[] args) {
        letters();
        hexadecimal();
        noHexadecimal();
        octal();
        lowest8Bits();
        newline();
        itself();
        textsEnd();
        notInBraces();
        Check.finish();
    }

    /** Bare, in quotes, and at the LIST's end as well as before more of it. */
    private static void means(String written, String due) {
        Check.reads(written, due);
        Check.reads("p " + written + " q", "p", due, "q");
        Check.reads("\"" + written + "\"", due);
        Check.reads("\"p " + written + "\" q", "p " + due, "q");
        Check.reads("p" + written, "p" + due);
    }

    private static void letters() {
        Check.sentence("a backslash and a byte mean: a 7, b 8, f 12, n 10, r 13, t 9, v 11");
        means("\\a", "\u0007");
        means("\\b", "\u0008");
        means("\\f", "\f");
        means("\\n", "\n");
        means("\\r", "\r");
        means("\\t", "\t");
        means("\\v", "\u000b");
        means("\\a\\b\\f\\n\\r\\t\\v", "\u0007\u0008\f\n\r\t\u000b");
        means("\\na\\nn", "\na\nn");
        means("\\n\\ \\t", "\n \t");
    }

    private static void hexadecimal() {
        Check.sentence("x and one or two hexadecimal digits that byte");
        for (int b = 0; b < 256; b++) {
            String byteItself = "" + (char) b;
            means(String.format("\\x%02x", b), byteItself);
            means(String.format("\\x%02X", b), byteItself);
            means(String.format("\\x%02xf", b), byteItself + "f");
            means(String.format("\\x%02x0", b), byteItself + "0");
        }
        for (int b = 0; b < 16; b++) {
            String byteItself = "" + (char) b;
            means(String.format("\\x%x", b), byteItself);
            means(String.format("\\x%X", b), byteItself);
            for (String behind : new String[] {"g", "G", "x", "/", ":", "@", "`", "\u0000", "\u00ff", "\\\\"}) {
                means(String.format("\\x%x", b) + behind, byteItself + behind.substring(behind.length() - 1));
            }
        }
        Check.reads("\\x4 1", "\u0004", "1");
        Check.reads("\"\\x4 1\"", "\u0004 1");
        Check.reads("\\x20\\x7B\\x22\\x5cn", " {\"\\n");
    }

    private static void noHexadecimal() {
        Check.sentence("x without a hexadecimal digit: x");
        means("\\x", "x");
        for (String behind : new String[] {"g", "G", "x41", "/", ":", "@", "`", "-1", "\u0000", "\u00ff"}) {
            means("\\x" + behind, "x" + behind);
        }
        means("\\x\\x41", "xA");
        means("\\x\\x", "xx");
        means("\\X41", "X41");
        Check.reads("\\x 41", "x", "41");
        Check.reads("\"\\x\"", "x");
    }

    private static void octal() {
        Check.sentence("one to three octal digits the number");
        for (int b = 0; b < 8; b++) {
            means("\\" + b, "" + (char) b);
            for (String behind : new String[] {"8", "9", "a", "x", "/", ":", "\\\\"}) {
                means("\\" + b + behind, (char) b + behind.substring(behind.length() - 1));
            }
        }
        for (int b = 0; b < 64; b++) {
            String digits = String.format("\\%02o", b);
            means(digits, "" + (char) b);
            means(digits + "8", (char) b + "8");
            means(digits + "9", (char) b + "9");
        }
        for (int b = 0; b < 256; b++) {
            String digits = String.format("\\%03o", b);
            means(digits, "" + (char) b);
            means(digits + "0", (char) b + "0");
            means(digits + "7", (char) b + "7");
        }
        Check.reads("\\1 01", "\u0001", "01");
        Check.reads("\"\\10 1\"", "\u0008 1");
    }

    private static void lowest8Bits() {
        Check.sentence("one to three octal digits the number's lowest 8 bits");
        for (int number = 256; number < 512; number++) {
            means(String.format("\\%03o", number), "" + (char) (number & 255));
            means(String.format("\\%03o0", number), (char) (number & 255) + "0");
        }
    }

    private static void newline() {
        Check.sentence("10 with all bytes 32 and 9 behind it 32");
        Check.reads("a\\\nb", "a b");
        Check.reads("a\\\n b", "a b");
        Check.reads("a\\\n\tb", "a b");
        Check.reads("a\\\n \t\t  b c", "a b", "c");
        Check.reads("\"a\\\nb\"", "a b");
        Check.reads("\"a\\\n \t\t  b\" c", "a b", "c");
        Check.reads("a\\\n" + " ".repeat(60) + "b", "a b");
        Check.sentence("10 with all bytes 32 and 9 behind it 32 (up to the end)");
        Check.reads("a\\\n", "a ");
        Check.reads("a\\\n \t ", "a ");
        Check.reads("\\\n", " ");
        Check.reads("\\\n  ", " ");
        Check.reads("\"a\\\n \"", "a ");
        Check.reads("\"\\\n\"", " ");
        Scene.with("a".repeat(500) + "\\\n" + " ".repeat(522), "", "").call("element(0)", x -> x.element(0))
            .answers(501).leaves("a".repeat(500) + "\\\n" + " ".repeat(522), "a".repeat(500) + " ", "");
        Check.sentence("10 with all bytes 32 and 9 behind it 32 (no other byte)");
        for (int b : new int[] {10, 11, 12, 13}) {
            String space = "" + (char) b;
            Check.reads("a\\\n" + space + "b", "a ", "b");
            Check.reads("a\\\n " + space + " b", "a ", "b");
            Check.reads("\"a\\\n " + space + " b\"", "a " + space + " b");
        }
        Check.reads("a\\\n\\\n b", "a  b");
        Check.reads("a\\\n \\ b", "a  b");
        Check.reads("a\\\n\u0008\u000e", "a \u0008\u000e");
        Check.sentence("a backslash and a byte mean: the byte itself (13 is no 10)");
        Check.reads("a\\\r b", "a\r", "b");
    }

    private static void itself() {
        Check.sentence("a backslash and a byte mean: else the byte itself");
        for (int b = 0; b < 256; b++) {
            if ("abfnrtvx01234567\n".indexOf(b) < 0) {
                means("\\" + (char) b, "" + (char) b);
                means("\\" + (char) b + "1", (char) b + "1");
            }
        }
        means("\\u0041\\U41\\N\\8\\9", "u0041U41N89");
    }

    private static void textsEnd() {
        Check.sentence("a backslash at the text's end itself");
        Check.reads("\\", "\\");
        Check.reads("a\\", "a\\");
        Check.reads("a \\", "a", "\\");
        Check.reads("\\\\", "\\");
        Check.reads("\\\\\\", "\\\\");
        Check.reads("{a} b\\ \\", "a", "b \\");
        Check.isBad("\"\\");
        Check.isBad("{\\");
        String most = "a".repeat(1023) + "\\";
        Scene.with(most, "", "").call("element(0)", x -> x.element(0)).answers(1024).leaves(most, most, "");
        String longer = "a".repeat(1022) + "\\";
        Scene.with(longer + "x", "", "").call("element(0)", x -> x.element(0)).answers(1023)
            .leaves(longer + "x", "a".repeat(1022) + "x", "");
        Scene.with(longer + "7", "", "").call("element(0)", x -> x.element(0)).answers(1023)
            .leaves(longer + "7", "a".repeat(1022) + "\u0007", "");
        Scene.with(longer + "\n", "", "").call("element(0)", x -> x.element(0)).answers(1023)
            .leaves(longer + "\n", "a".repeat(1022) + " ", "");
        // Bytes that an earlier, longer LIST had behind the end are none of this text.
        ListWords x = Check.withList("a \\n\\x41");
        Check.list(x, "a \\");
        Check.same("element(1) behind a longer LIST", x.element(1), 1);
        Check.same("itemAt(0) behind a longer LIST", x.itemAt(0), 92);
        Check.list(x, "a \\n\\x41");
        Check.list(x, "a \\n\\x");
        Check.same("element(1) behind a longer LIST", x.element(1), 2);
        Check.same("itemAt(1) behind a longer LIST", x.itemAt(1), 120);
    }

    private static void notInBraces() {
        Check.sentence("In the latter two a backslash and a byte mean (not in braces)");
        for (String text : new String[] {"\\a", "\\x41", "\\x", "\\101", "\\\n  ", "\\ ", "\\\"", "\\\\"}) {
            Check.reads("{" + text + "}", text);
        }
    }
}
