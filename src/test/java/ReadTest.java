/** Promises 6 and 7, count and element: how a LIST is read. */
public final class ReadTest {
    public static void main(String[] args) {
        spaces();
        braces();
        quotes();
        bare();
        backslashes();
        numbers();
        newlines();
        answers();
        longLists();
        Check.finish();
    }

    private static void spaces() {
        Check.reads("");
        Check.reads(" ");
        Check.reads(" \t\n\u000b\f\r ");
        Check.reads("a", "a");
        Check.reads("  a  ", "a");
        Check.reads("a\tb\nc\u000bd\fe\rf g", "a", "b", "c", "d", "e", "f", "g");
        Check.reads("a\u0008b\u000ec\u001fd!e\u0000f\u0085g\u00a0h", "a\u0008b\u000ec\u001fd!e\u0000f\u0085g\u00a0h");
    }

    private static void braces() {
        Check.reads("{}", "");
        Check.reads("{} {}", "", "");
        Check.reads("{a b}", "a b");
        Check.reads(" {a {b c} d}\n{\"} ", "a {b c} d", "\"");
        Check.reads("{{}}", "{}");
        Check.reads("{ } \t{\n}", " ", "\n");
        Check.reads("{a\\}b}", "a\\}b");
        Check.reads("{a\\{b}", "a\\{b");
        Check.reads("{a\\\\}", "a\\\\");
        Check.reads("{\\n\\x41\\101\\\n  b}", "\\n\\x41\\101\\\n  b");
        Check.isBad("{");
        Check.isBad(" {a b");
        Check.isBad("{{}");
        Check.isBad("{a\\}");
        Check.isBad("{a\\");
        Check.isBad("{a}b");
        Check.isBad("{a}}");
        Check.isBad("{a}{b}");
        Check.isBad("{a}\"b\"");
        Check.isBad("{a}\\ ");
        Check.isBad("a {b} c {d");
    }

    private static void quotes() {
        Check.reads("\"\"", "");
        Check.reads("\"\" \"\"", "", "");
        Check.reads("\"a b\"\t\"c{\"", "a b", "c{");
        Check.reads("\"}{ $[];#\"", "}{ $[];#");
        Check.reads("\"a\\\"b\"", "a\"b");
        Check.reads("\"a\\\\\" b", "a\\", "b");
        Check.reads("\"\\x\" \"\\x4\" \"\\7\"", "x", "\u0004", "\u0007");
        Check.isBad("\"");
        Check.isBad(" \"a b");
        Check.isBad("\"a");
        Check.isBad("\"a\\\"");
        Check.isBad("\"a\\");
        Check.isBad("\"a\"b");
        Check.isBad("\"a\"\"b\"");
        Check.isBad("\"a\"{b}");
        Check.isBad("a \"b\" \"");
    }

    private static void bare() {
        Check.reads("a{ b} c\"d }", "a{", "b}", "c\"d", "}");
        Check.reads("#a ;b $c [d]", "#a", ";b", "$c", "[d]");
        Check.reads("a\\ b c", "a b", "c");
        Check.reads("a\\\tb c\\\r", "a\tb", "c\r");
        Check.reads("a\\\\ b", "a\\", "b");
        Check.reads("\\{ \\\" \\}", "{", "\"", "}");
        Check.reads("\\ ", " ");
        Check.reads("}x{ y", "}x{", "y");
    }

    private static void backslashes() {
        Check.reads("\\a\\b\\f\\n\\r\\t\\v", "\u0007\u0008\f\n\r\t\u000b");
        Check.reads("\"\\a\\b\\f\\n\\r\\t\\v\"", "\u0007\u0008\f\n\r\t\u000b");
        Check.reads("\\c\\d\\e\\g\\u0041\\U\\A\\B\\N\\X41\\8\\9\\$", "cdegu0041UABNX4189$");
        Check.reads("\\\u0000\\\u00ff", "\u0000\u00ff");
        Check.reads("\\", "\\");
        Check.reads("a\\", "a\\");
        Check.reads("a \\\\\\", "a", "\\\\");
    }

    private static void numbers() {
        Check.reads("\\x41", "A");
        Check.reads("\\x411", "A1");
        Check.reads("\\x4g \\xg \\x", "\u0004g", "xg", "x");
        Check.reads("\\x20\\x7B\\xfF\\x0\\xaBc", " {\u00ff\u0000\u00abc");
        Check.reads("\\x:\\x@\\xG\\x`\\x/", "x:x@xGx`x/");
        Check.reads("\\x01\\x23\\x45\\x67\\x89\\xab\\xcd\\xef\\xAB\\xCD\\xEF",
            "\u0001\u0023\u0045\u0067\u0089\u00ab\u00cd\u00ef\u00ab\u00cd\u00ef");
        Check.reads("\"\\x4 1\"", "\u0004 1");
        Check.reads("\\101 \\1011 \\7 \\08 \\128", "A", "A1", "\u0007", "\u00008", "\n8");
        Check.reads("\\377\\400\\777\\501", "\u00ff\u0000\u00ffA");
        Check.reads("\\0\\00\\000\\0000", "\u0000\u0000\u0000\u00000");
        Check.reads("\"\\40\"", " ");
    }

    private static void newlines() {
        Check.reads("a\\\nb", "a b");
        Check.reads("a\\\n \t b c", "a b", "c");
        Check.reads("\"a\\\n \t b\"", "a b");
        Check.reads("\"a\\\n \"", "a ");
        Check.reads("a\\\n", "a ");
        Check.reads("\\\n  ", " ");
        Check.reads("a\\\n \nb", "a ", "b");
        Check.reads("a\\\n\\\n b", "a  b");
        Check.reads("\"\\\n\u000b\f\r\n\"", " \u000b\f\r\n");
    }

    private static void answers() {
        ListWords x = Check.withList("a {b c} {} \"d\\te\"");
        Check.item(x, "old");
        Check.tape(x, "tape");
        Check.same("count()", x.count(), 4);
        for (int k : new int[] {-1, 4, 5, Integer.MIN_VALUE, Integer.MAX_VALUE}) {
            Check.same("element(" + k + ")", x.element(k), ListWords.NONE);
            Check.same("ITEM stays", Check.itemOf(x), "old");
        }
        Check.same("element(3)", x.element(3), 3);
        Check.same("ITEM", Check.itemOf(x), "d\te");
        Check.same("element(2)", x.element(2), 0);
        Check.same("ITEM", Check.itemOf(x), "");
        Check.same("element(1)", x.element(1), 3);
        Check.same("ITEM", Check.itemOf(x), "b c");
        Check.same("LIST stays", Check.listOf(x), "a {b c} {} \"d\\te\"");
        Check.same("count()", x.count(), 4);
        Check.same("the tape stays", x.end(4), true);

        Check.list(x, "a b {c");
        for (int k : new int[] {-1, 0, 1, 2, 3, Integer.MAX_VALUE}) {
            Check.same("element(" + k + ") of a LIST that is BAD", x.element(k), ListWords.BAD);
            Check.same("ITEM stays", Check.itemOf(x), "b c");
        }
        Check.same("count()", x.count(), ListWords.BAD);
        Check.same("LIST stays", Check.listOf(x), "a b {c");
        x.list();
        Check.same("element(0) of the empty LIST", x.element(0), ListWords.NONE);
    }

    private static void longLists() {
        ListWords x = Check.withList("a ".repeat(511) + "xy");
        Check.same("count() of 1024 bytes", x.count(), 512);
        Check.same("element(511)", x.element(511), 2);
        Check.same("element(512)", x.element(512), ListWords.NONE);
        Check.list(x, "b".repeat(1024));
        Check.same("element(0) of 1024 bytes", x.element(0), 1024);
        Check.same("last byte", x.itemAt(1023), 98);
        Check.list(x, "{".repeat(512) + "}".repeat(512));
        Check.same("element(0) of 512 braces", x.element(0), 1022);
        Check.list(x, "{".repeat(513) + "}".repeat(511));
        Check.same("count() of 513 braces", x.count(), ListWords.BAD);
        Check.list(x, "\\".repeat(1024));
        Check.same("element(0) of backslashes", x.element(0), 512);
        Check.list(x, "a".repeat(1023) + "\\");
        Check.same("element(0) with a backslash at the end", x.element(0), 1024);
        Check.list(x, "a".repeat(1022) + "\\x");
        Check.same("element(0) with \\x at the end", x.element(0), 1023);
        Check.list(x, "a".repeat(1022) + "\\\n");
        Check.same("element(0) with a newline at the end", x.element(0), 1023);
    }
}
