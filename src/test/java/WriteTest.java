/** Promises 8 and 9, append and again: how elements are written. */
public final class WriteTest {
    public static void main(String[] args) {
        asItIs();
        inBraces();
        withBackslashes();
        everyByte();
        appendBehind();
        appendLong();
        againAnswers();
        againLong();
        Check.finish();
    }

    private static void writes(String element, String due) {
        ListWords x = new ListWords();
        Check.item(x, element);
        Check.same("append() of " + Check.shown(element), x.append(), due.length());
        Check.same("written " + Check.shown(element), Check.listOf(x), due);
        Check.same("ITEM stays", Check.itemOf(x), element);
        Check.same("again() of " + Check.shown(due), x.again(), due.length());
        Check.same("written again " + Check.shown(element), Check.listOf(x), due);
        Check.same("ITEM stays", Check.itemOf(x), element);
        Check.reads(due, element);
    }

    private static void asItIs() {
        writes("a", "a");
        writes("a#b#", "a#b#");
        writes("!%&'()*+,-./:<=>?@^_`|~", "!%&'()*+,-./:<=>?@^_`|~");
        writes("\u0000\u0007\u0008\u000e\u001f\u007f\u0080\u0085\u00a0\u00ff",
            "\u0000\u0007\u0008\u000e\u001f\u007f\u0080\u0085\u00a0\u00ff");
    }

    private static void inBraces() {
        writes("", "{}");
        writes("{}", "{{}}");
        writes("a b", "{a b}");
        writes(" ", "{ }");
        writes("\t\n\u000b\f\r", "{\t\n\u000b\f\r}");
        writes("#", "{#}");
        writes("#a", "{#a}");
        writes("a\"", "{a\"}");
        writes("$", "{$}");
        writes(";", "{;}");
        writes("[", "{[}");
        writes("]", "{]}");
        writes("a{b}c{d{e}}", "{a{b}c{d{e}}}");
    }

    private static void withBackslashes() {
        writes("\\", "\\\\");
        writes("{", "\\{");
        writes("}", "\\}");
        writes("}{", "\\}\\{");
        writes("{}}{", "\\{\\}\\}\\{");
        writes("{\\}", "\\{\\\\\\}");
        writes("\\{", "\\\\\\{");
        writes("{a b\t\n\u000b\f\r\"$;[]", "\\{a\\ b\\t\\n\\v\\f\\r\\\"\\$\\;\\[\\]");
        writes("#{", "\\#\\{");
        writes("{#", "\\{#");
        writes("\\##", "\\\\##");
        writes("##\\", "\\##\\\\");
        writes("\\n", "\\\\n");
        writes("{\u0007\u0008\u000e\u00ff", "\\{\u0007\u0008\u000e\u00ff");
    }

    private static void everyByte() {
        for (int b = 0; b < 256; b++) {
            for (String element : new String[] {"" + (char) b, "a" + (char) b, (char) b + "{", "\\" + (char) b}) {
                ListWords x = new ListWords();
                Check.item(x, element);
                x.append();
                x.append();
                x.item();
                Check.same("count() of byte " + b + " written twice", x.count(), 2);
                x.element(1);
                Check.same("byte " + b + " written and read", Check.itemOf(x), element);
            }
        }
    }

    private static void appendBehind() {
        ListWords x = new ListWords();
        Check.item(x, "#");
        x.append();
        Check.same("append() behind a LIST", x.append(), 7);
        Check.same("LIST", Check.listOf(x), "{#} {#}");
        Check.tape(x, "tape");
        x.append();
        Check.same("the tape stays", x.end(4), true);
        Check.list(x, "  ");
        Check.same("append() behind spaces", x.append(), 6);
        Check.same("LIST", Check.listOf(x), "   {#}");
        Check.list(x, "{a");
        Check.same("append() behind a LIST that is BAD", x.append(), 6);
        Check.same("LIST", Check.listOf(x), "{a {#}");
        Check.list(x, "a\\");
        Check.same("append() behind a backslash", x.append(), 6);
        Check.same("count()", x.count(), 1);
    }

    private static void appendLong() {
        appendAtTheEdge(1020, "abc", 1024);
        appendAtTheEdge(1021, "abc", ListWords.LONG);
        appendAtTheEdge(1021, "", 1024);
        appendAtTheEdge(1022, "", ListWords.LONG);
        appendAtTheEdge(1020, ";", 1024);
        appendAtTheEdge(1021, ";", ListWords.LONG);
        appendAtTheEdge(1019, "\\{", 1024);
        appendAtTheEdge(1020, "\\{", ListWords.LONG);
        appendAtTheEdge(1021, "\\{", ListWords.LONG);
        appendAtTheEdge(1022, "a", 1024);
        appendAtTheEdge(1023, "a", ListWords.LONG);
        appendAtTheEdge(1024, "a", ListWords.LONG);
        appendAtTheEdge(0, "a".repeat(1024), 1024);
        appendAtTheEdge(1, "a".repeat(1024), ListWords.LONG);
        appendAtTheEdge(0, " ".repeat(1022), 1024);
        appendAtTheEdge(0, " ".repeat(1023), ListWords.LONG);
        appendAtTheEdge(0, "\\".repeat(512), 1024);
        appendAtTheEdge(0, "\\".repeat(513), ListWords.LONG);
        appendAtTheEdge(0, "\\".repeat(1024), ListWords.LONG);
    }

    private static void appendAtTheEdge(int listBytes, String element, int due) {
        ListWords x = Check.withList("l".repeat(listBytes));
        int itemBytes = Check.item(x, element);
        String call = "append() of " + itemBytes + " bytes behind " + listBytes;
        Check.same(call, x.append(), due);
        int bytes = due == ListWords.LONG ? listBytes : due;
        Check.same(call + ": a last byte", x.listAt(bytes - 1) != ListWords.NONE, bytes > 0);
        Check.same(call + ": behind the last byte", x.listAt(bytes), ListWords.NONE);
        if (listBytes > 0) {
            Check.same(call + ": the LIST's first byte", x.listAt(0), 108);
            Check.same(call + ": the LIST's last byte", x.listAt(listBytes - 1), 108);
        }
        Check.same(call + ": ITEM stays", x.wrap() == bytes && x.itemAt(bytes) == ListWords.NONE, true);
    }

    private static void again(String text, String due) {
        ListWords x = Check.withList(text);
        Check.item(x, "old");
        Check.tape(x, "tape");
        Check.same("again() of " + Check.shown(text), x.again(), due.length());
        Check.same("LIST", Check.listOf(x), due);
        Check.same("ITEM stays", Check.itemOf(x), "old");
        Check.same("the tape stays", x.list(), 4);
    }

    private static void againAnswers() {
        again("", "");
        again(" \t\n", "");
        again("  a   b\t", "a b");
        again("\"a\" {b} c", "a b c");
        again("\"\" {}", "{} {}");
        again("\"a b\" c\\ d {e\tf}", "{a b} {c d} {e\tf}");
        again("#a b #c a#", "{#a} b {#c} a#");
        again("a{ {\\n} \\n \\x41", "a\\{ \\\\n {\n} A");
        again("a\\", "a\\\\");
        for (String bad : new String[] {"{", "a {b", "\"a\"b", "a b c {d}e"}) {
            ListWords x = Check.withList(bad);
            Check.item(x, "old");
            Check.same("again() of " + bad, x.again(), ListWords.BAD);
            Check.same("LIST stays", Check.listOf(x), bad);
            Check.same("ITEM stays", Check.itemOf(x), "old");
        }
    }

    private static void againLong() {
        ListWords x = Check.withList("; ".repeat(255) + "  ;");
        Check.same("again() of 256 elements", x.again(), 1023);
        Check.list(x, "; ".repeat(256) + "a");
        Check.same("again() of 1025 bytes", x.again(), ListWords.LONG);
        Check.same("LIST stays", x.listAt(0) == ';' && x.listAt(512) == 'a' && x.listAt(513) == ListWords.NONE, true);
        Check.same("count() stays", x.count(), 257);
        Check.same("again() again", x.again(), ListWords.LONG);
        Check.list(x, "; ".repeat(255) + "aaaa");
        Check.same("again() of just 1024 bytes", x.again(), 1024);
        Check.same("the last byte", x.listAt(1023), 97);
        Check.list(x, "; ".repeat(300) + "{");
        Check.same("again() of a LIST long and BAD", x.again(), ListWords.BAD);
        Check.same("LIST stays", x.listAt(600) == '{' && x.listAt(601) == ListWords.NONE, true);
    }
}
