/** Terms: how an element is WRITTEN, seen by append and again. */
public final class WrittenTest {
    private static final String MARKS = "\"$;[\\]{}";

    public static void main(String[] args) {
        empty();
        asItIs();
        everyByteAlone();
        beginsWithHash();
        inBraces();
        balancedInTheirOrder();
        hasABackslash();
        behindBackslashes();
        namedSpaces();
        hashBehindABackslash();
        between();
        readsBack();
        Check.finish();
    }

    private static void writes(String element, String due) {
        ListWords x = new ListWords();
        Check.item(x, element);
        Check.same("append() of " + Check.shown(element), x.append(), due.length());
        Check.same("written " + Check.shown(element), Check.listOf(x), due);
        Check.same("again() of " + Check.shown(due), x.again(), due.length());
        Check.same("written again " + Check.shown(element), Check.listOf(x), due);
        Check.reads(due, element);
    }

    private static void empty() {
        Check.sentence("An element is WRITTEN: empty as {}");
        writes("", "{}");
    }

    private static void asItIs() {
        Check.sentence("as it is, if it has no space and none of \" $ ; [ \\ ] { } and does not begin with #");
        writes("a", "a");
        writes("a#b#", "a#b#");
        writes("!%&'()*+,-./:<=>?@^_`|~", "!%&'()*+,-./:<=>?@^_`|~");
        writes("\u0000\u0007\u0008\u000e\u001f\u007f\u0080\u0085\u00a0\u00ff",
            "\u0000\u0007\u0008\u000e\u001f\u007f\u0080\u0085\u00a0\u00ff");
    }

    private static void everyByteAlone() {
        Check.sentence("as it is, if it has no space and none of \" $ ; [ \\ ] { } (each byte)");
        for (int b = 0; b < 256; b++) {
            String c = "" + (char) b;
            if (c.equals("\\") || c.equals("{") || c.equals("}")) {
                writes(c, "\\" + c);
                writes("a" + c, "a\\" + c);
                writes("a" + c + "b", "a\\" + c + "b");
            } else if (Check.isSpace(b) || MARKS.contains(c)) {
                writes(c, "{" + c + "}");
                writes("a" + c, "{a" + c + "}");
                writes("a" + c + "b", "{a" + c + "b}");
            } else {
                writes("a" + c, "a" + c);
                writes("a" + c + "b", "a" + c + "b");
            }
        }
    }

    private static void beginsWithHash() {
        Check.sentence("as it is, if it does not begin with #");
        writes("#", "{#}");
        writes("#a", "{#a}");
        writes("##", "{##}");
        writes("a#", "a#");
        writes("a#b", "a#b");
        Check.sentence("as it is, if it does not begin with # (an element that is not the first)");
        Scene.with("a", "#", "").call("append()", ListWords::append).answers(5).leaves("a {#}", "#", "");
        Scene.with("a #b c#", "", "").call("again()", ListWords::again).answers(9).leaves("a {#b} c#", "", "");
    }

    private static void inBraces() {
        Check.sentence("else if its braces are balanced and it has no backslash: in { }");
        writes("{}", "{{}}");
        writes("a b", "{a b}");
        writes(" \t\n\u000b\f\r", "{ \t\n\u000b\f\r}");
        writes("\"$;[]#", "{\"$;[]#}");
        writes("a{b}c{d{e}}", "{a{b}c{d{e}}}");
        writes("{}{}", "{{}{}}");
        writes("#{}", "{#{}}");
        writes("{".repeat(30) + "}".repeat(30), "{" + "{".repeat(30) + "}".repeat(30) + "}");
    }

    private static void balancedInTheirOrder() {
        Check.sentence("its braces are balanced, in their order");
        writes("{", "\\{");
        writes("}", "\\}");
        writes("}{", "\\}\\{");
        writes("{}}{", "\\{\\}\\}\\{");
        writes("{{}", "\\{\\{\\}");
        writes("{}}", "\\{\\}\\}");
        writes("}{}{", "\\}\\{\\}\\{");
    }

    private static void hasABackslash() {
        Check.sentence("balanced (backslashes not being there) and it has no backslash");
        writes("\\", "\\\\");
        writes("a\\", "a\\\\");
        writes("\\{}", "\\\\\\{\\}");
        writes("{\\}", "\\{\\\\\\}");
        writes("{\\}}", "\\{\\\\\\}\\}");
        writes("{}\\", "\\{\\}\\\\");
        writes("a b\\", "a\\ b\\\\");
        writes("\\n", "\\\\n");
        writes("\\\\", "\\\\\\\\");
    }

    private static void behindBackslashes() {
        Check.sentence("else each of those bytes behind a backslash");
        writes("{a b\"$;[]", "\\{a\\ b\\\"\\$\\;\\[\\]");
        writes("\\}\\{", "\\\\\\}\\\\\\{");
        writes("{\u0000\u0007\u0008\u000e\u001f!\u007f\u00ff", "\\{\u0000\u0007\u0008\u000e\u001f!\u007f\u00ff");
        for (int b = 33; b < 256; b++) {
            String c = "" + (char) b;
            writes("{" + c + c, c.equals("}") ? "\\{\\}\\}" : MARKS.contains(c) ? "\\{\\" + c + "\\" + c : "\\{" + c + c);
        }
        writes("{  ", "\\{\\ \\ ");
    }

    private static void namedSpaces() {
        Check.sentence("9 to 13 as \\t \\n \\v \\f \\r");
        writes("{\t", "\\{\\t");
        writes("{\n", "\\{\\n");
        writes("{\u000b", "\\{\\v");
        writes("{\f", "\\{\\f");
        writes("{\r", "\\{\\r");
        writes("\t\n\u000b\f\r }", "\\t\\n\\v\\f\\r\\ \\}");
        writes("{\n \t", "\\{\\n\\ \\t");
        writes("{\u0008\u000e", "\\{\u0008\u000e");
    }

    private static void hashBehindABackslash() {
        Check.sentence("each of those bytes (and a # at the beginning) behind a backslash");
        writes("#{", "\\#\\{");
        writes("#\\", "\\#\\\\");
        writes("##\\", "\\##\\\\");
        writes("{#", "\\{#");
        writes("\\##", "\\\\##");
    }

    private static void between() {
        Check.sentence("Written elements have a byte 32 between them");
        Scene.with("{a}\t \n\"\"\r{b c}\u000b\\{", "", "").call("again()", ListWords::again).answers(13)
            .leaves("a {} {b c} \\{", "", "");
        Scene.with("a", "b", "").call("append()", ListWords::append).answers(3).leaves("a b", "b", "");
    }

    private static void readsBack() {
        Check.sentence("written so that they read back just as they were");
        for (int b = 0; b < 256; b++) {
            String c = "" + (char) b;
            for (String element : new String[] {c, "a" + c, c + "{", "\\" + c, c + c, "{" + c + "}", "}" + c + "7"}) {
                ListWords x = new ListWords();
                Check.item(x, element);
                x.append();
                x.append();
                x.item();
                Check.same("count() of byte " + b + " written twice", x.count(), 2);
                x.element(1);
                Check.same("byte " + b + " written and read", Check.itemOf(x), element);
                Check.same("again() when all is written", x.again(), Check.listOf(x).length());
            }
        }
    }
}
