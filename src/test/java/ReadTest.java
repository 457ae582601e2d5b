/** Terms: how a LIST is read, seen by count and element. */
public final class ReadTest {
    public static void main(String[] args) {
        spacesPart();
        spacesAtTheEnds();
        noBytes();
        bracesAreCounted();
        bracesAndBackslashes();
        allBetweenBraces();
        quotes();
        quotesAndBackslashes();
        others();
        othersAndBackslashes();
        behindBraceOrQuote();
        neverClosed();
        badAnywhere();
        Check.finish();
    }

    private static void spacesPart() {
        Check.sentence("ELEMENTS parted by SPACES (bytes 32 and 9 to 13)");
        for (int b = 0; b < 256; b++) {
            String text = "y" + (char) b + "z";
            if (Check.isSpace(b)) {
                Check.reads(text, "y", "z");
            } else if (b != '\\') {
                Check.reads(text, text);
            }
        }
        Check.reads("a\tb\nc\u000bd\fe\rf g", "a", "b", "c", "d", "e", "f", "g");
        Check.reads("a \t\n\u000b\f\r b", "a", "b");
        Check.reads("{a}\t{b}\n\"c\"\u000b\"d\"\f{e}\r\"f\" g", "a", "b", "c", "d", "e", "f", "g");
    }

    private static void spacesAtTheEnds() {
        Check.sentence("ELEMENTS parted by SPACES, these at the ends, too");
        for (String space : new String[] {" ", "\t", "\n", "\u000b", "\f", "\r", " \t\n\u000b\f\r "}) {
            Check.reads(space + "a", "a");
            Check.reads("a" + space, "a");
            Check.reads(space + "{a} \"b\"" + space, "a", "b");
            Check.reads(space + "\"a\" {b}" + space, "a", "b");
        }
    }

    private static void noBytes() {
        Check.sentence("A LIST: ELEMENTS parted by SPACES (no element)");
        Check.reads("");
        Check.reads(" ");
        Check.reads(" \t\n\u000b\f\r ");
    }

    private static void bracesAreCounted() {
        Check.sentence("{...}: braces in it are counted");
        Check.reads("{}", "");
        Check.reads("{} {}", "", "");
        Check.reads("{{}}", "{}");
        Check.reads("{{}{}} {}", "{}{}", "");
        Check.reads("{a {b c} d} e", "a {b c} d", "e");
        Check.reads("{{{{}}}}", "{{{}}}");
        Check.reads("{" + "{".repeat(40) + "}".repeat(40) + "}", "{".repeat(40) + "}".repeat(40));
        Check.isBad("{{}");
        Check.isBad("{}}");
    }

    private static void bracesAndBackslashes() {
        Check.sentence("{...}: a backslash and the byte behind it are passed over, both being its");
        Check.reads("{a\\}b}", "a\\}b");
        Check.reads("{a\\{b}", "a\\{b");
        Check.reads("{\\}}", "\\}");
        Check.reads("{\\\\}", "\\\\");
        Check.reads("{\\\\\\}}", "\\\\\\}");
        Check.reads("{{\\}}}", "{\\}}");
        Check.isBad("{\\}");
        Check.isBad("{a\\{}}");
        Check.isBad("{\\\\\\}");
        Check.isBad("{\\\\}}");
        for (int b = 0; b < 256; b++) {
            Check.reads("{\\" + (char) b + "}", "\\" + (char) b);
        }
    }

    private static void allBetweenBraces() {
        Check.sentence("{...}: its text all between");
        Check.reads("{ }", " ");
        Check.reads("{ \t\n\u000b\f\r }", " \t\n\u000b\f\r ");
        Check.reads("{\"} {a\"b\"c}", "\"", "a\"b\"c");
        Check.reads("{\\n\\x41\\101\\\n  b}", "\\n\\x41\\101\\\n  b");
        for (int b = 0; b < 256; b++) {
            if (b != '{' && b != '}' && b != '\\') {
                Check.reads("{" + (char) b + "}", "" + (char) b);
            }
        }
    }

    private static void quotes() {
        Check.sentence("\"...\" up to the next \"");
        Check.reads("\"\"", "");
        Check.reads("\"\" \"\"", "", "");
        Check.reads("\"a b\"\t\"c{\"", "a b", "c{");
        Check.reads("\"{\" \"}\" \"}{\"", "{", "}", "}{");
        Check.reads("\" \t\n\u000b\f\r \"", " \t\n\u000b\f\r ");
        for (int b = 0; b < 256; b++) {
            if (b != '"' && b != '\\') {
                Check.reads("\"" + (char) b + "\"", "" + (char) b);
            }
        }
    }

    private static void quotesAndBackslashes() {
        Check.sentence("\"...\" up to the next \" not behind a backslash");
        Check.reads("\"a\\\"b\"", "a\"b");
        Check.reads("\"\\\"\"", "\"");
        Check.reads("\"\\\" \\\"\" \"c\"", "\" \"", "c");
        Check.reads("\"a\\\\\" b", "a\\", "b");
        Check.reads("\"\\\\\\\"\"", "\\\"");
        Check.isBad("\"\\\"");
        Check.isBad("\"\\\\\"\"");
        Check.isBad("\"\\\\\\\"");
    }

    private static void others() {
        Check.sentence("others up to a space");
        Check.reads("a{ b} c\"d }", "a{", "b}", "c\"d", "}");
        Check.reads("a{b c}d", "a{b", "c}d");
        Check.reads("a\"b c\"d", "a\"b", "c\"d");
        Check.reads("}x{ y", "}x{", "y");
        Check.reads("#a ;b $c [d]", "#a", ";b", "$c", "[d]");
    }

    private static void othersAndBackslashes() {
        Check.sentence("others up to a space not behind a backslash");
        for (int b : new int[] {32, 9, 11, 12, 13}) {
            String space = "" + (char) b;
            Check.reads("a\\" + space + "b c", "a" + space + "b", "c");
            Check.reads("\\" + space, space);
            Check.reads("a\\" + space + space + "b", "a" + space, "b");
            Check.reads("a\\\\" + space + "b", "a\\", "b");
            Check.reads("a\\\\\\" + space + "b", "a\\" + space + "b");
        }
        Check.reads("a\\\nb c", "a b", "c");
        Check.reads("a\\\\\nb", "a\\", "b");
        Check.reads("\\{ \\\" \\}", "{", "\"", "}");
        Check.reads("\\{a b\\}", "{a", "b}");
    }

    private static void behindBraceOrQuote() {
        Check.sentence("Behind } or \" must come a space or the end");
        Check.reads("{a}", "a");
        Check.reads("\"a\"", "a");
        for (int b = 0; b < 256; b++) {
            for (String text : new String[] {"{a}" + (char) b, "\"a\"" + (char) b}) {
                if (Check.isSpace(b)) {
                    Check.reads(text, "a");
                    Check.reads(text + "b", "a", "b");
                } else {
                    Check.isBad(text);
                    Check.isBad(text + " ");
                }
            }
        }
        Check.isBad("{a}{b}");
        Check.isBad("{a}\"b\"");
        Check.isBad("\"a\"\"b\"");
        Check.isBad("\"a\"{b}");
        Check.isBad("{a}\\\n ");
        Check.isBad("\"a\"\\\n ");
    }

    private static void neverClosed() {
        Check.sentence("What can't be read so is BAD (a brace that never closes)");
        for (String text : new String[] {"{", " {", "{ ", "{a b", "{{}", "{{", "{\"}\\", "{a\\}", "{a\\", "a {"}) {
            Check.isBad(text);
        }
        Check.sentence("What can't be read so is BAD (a quote that never closes)");
        for (String text : new String[] {"\"", " \"", "\" ", "\"a b", "\"a\\\"", "\"a\\", "\"{}", "a \""}) {
            Check.isBad(text);
        }
        Check.sentence("What can't be read so is BAD (what can is not)");
        Check.reads("}", "}");
        Check.reads("}{", "}{");
        Check.reads("a{", "a{");
        Check.reads("a\"", "a\"");
        Check.reads("\\{", "{");
        Check.reads("\\\"", "\"");
        Check.reads("\"{\"", "{");
        Check.reads("{\"}", "\"");
    }

    private static void badAnywhere() {
        Check.sentence("What can't be read so is BAD (at the start, in the midst, at the end)");
        for (String bad : new String[] {"{a}b", "\"a\"b"}) {
            Check.isBad(bad);
            Check.isBad(bad + " c {d}");
            Check.isBad("c " + bad + " {d}");
            Check.isBad("c {d} " + bad);
        }
    }
}
