/** Promise 9: again. */
public final class AgainTest {
    public static void main(String[] args) {
        ownElements();
        noElements();
        justFits();
        tooLong();
        afterARefusal();
        bad();
        longAndBad();
        Check.finish();
    }

    private static Scene again(String list) {
        return Scene.with(list, "old item", "tape").call("again()", ListWords::again);
    }

    private static void becomes(String list, String due) {
        again(list).answers(due.length()).leaves(due, "old item", "tape");
    }

    private static void refuses(String list, int due) {
        again(list).answers(due).changesNothing();
    }

    private static void ownElements() {
        Check.sentence("9: The LIST becomes its own elements, written: how many bytes");
        becomes("a", "a");
        becomes("  a   b\t", "a b");
        becomes("\"a\" {b} c", "a b c");
        becomes("\"\" {}", "{} {}");
        becomes("\"a b\" c\\ d {e\tf}", "{a b} {c d} {e\tf}");
        becomes("#a b #c a#", "{#a} b {#c} a#");
        becomes("a{ {\\n} \\n \\x41", "a\\{ \\\\n {\n} A");
        becomes("a\\", "a\\\\");
        becomes("\"{\" {a}", "\\{ a");
        Scene.with(" \"a\"  {b c} ", "i", "t").call("again(), again()", x -> x.again() * 10 + x.again()).answers(77)
            .leaves("a {b c}", "i", "t");
    }

    private static void noElements() {
        Check.sentence("9: The LIST becomes its own elements, written (it has none)");
        becomes("", "");
        becomes(" ", "");
        becomes(" \t\n\u000b\f\r ", "");
        becomes(" ".repeat(1024), "");
    }

    private static void justFits() {
        Check.sentence("9: LONG (just 1024 bytes)");
        becomes("a".repeat(1024), "a".repeat(1024));
        becomes("a".repeat(1020) + " \\{", "a".repeat(1020) + " \\{");
        becomes("a".repeat(1021) + " \"\"", "a".repeat(1021) + " {}");
        becomes("a".repeat(1020) + " ;", "a".repeat(1020) + " {;}");
        becomes("; ".repeat(255) + "aaaa", "{;} ".repeat(255) + "aaaa");
        becomes("\\".repeat(1024), "\\".repeat(1024));
        becomes("{".repeat(512) + "}".repeat(512), "{".repeat(512) + "}".repeat(512));
        becomes("{" + " ".repeat(1022) + "}", "{" + " ".repeat(1022) + "}");
        becomes("\"" + " ".repeat(1022) + "\"", "{" + " ".repeat(1022) + "}");
        becomes("a".repeat(1022) + "\\", "a".repeat(1022) + "\\\\");
        becomes("a".repeat(1022) + "}", "a".repeat(1022) + "\\}");
        becomes("#" + "a".repeat(1021), "{#" + "a".repeat(1021) + "}");
    }

    private static void tooLong() {
        Check.sentence("9: LONG (it stays)");
        refuses("a".repeat(1021) + " ;", ListWords.LONG);
        refuses("a".repeat(1023) + "\\", ListWords.LONG);
        refuses("a".repeat(1023) + "}", ListWords.LONG);
        refuses("#" + "a".repeat(1022), ListWords.LONG);
        refuses("; ".repeat(255) + "aaaaa", ListWords.LONG);
        refuses("; ".repeat(256) + "a", ListWords.LONG);
        refuses("; ".repeat(512), ListWords.LONG);
        refuses("$".repeat(1024), ListWords.LONG);
        refuses("}".repeat(1024), ListWords.LONG);
        refuses("\"" + "{".repeat(1022) + "\"", ListWords.LONG);
        Scene.with("; ".repeat(300), "i", "t").call("again(), again()", x -> x.again() * 10 + x.again())
            .answers(ListWords.LONG * 11).changesNothing();
        Scene.with("; ".repeat(300), "i", "t").call("again(), count()", x -> x.again() * 1000 + x.count())
            .answers(ListWords.LONG * 1000 + 300).changesNothing();
    }

    private static void afterARefusal() {
        Check.sentence("9: LONG (it stays): nothing of the refused call is in what is written later");
        Scene.with("; ".repeat(300), "i", " a  {b c} ").call("again(), list(), again()",
            x -> x.again() == ListWords.LONG && x.list() == 10 ? x.again() : 0).answers(7).leaves("a {b c}", "i", "");
        Scene.with("; ".repeat(300), "i", " ").call("again(), list(), again()",
            x -> x.again() == ListWords.LONG && x.list() == 1 ? x.again() : -9).answers(0).leaves("", "i", "");
        Check.sentence("9: BAD: nothing of the refused call is in what is written later");
        Scene.with(" a  {", "i", " \"b\" ").call("again(), list(), again()",
            x -> x.again() == ListWords.BAD && x.list() == 5 ? x.again() : 0).answers(1).leaves("b", "i", "");
    }

    private static void bad() {
        Check.sentence("9: BAD");
        for (String list : new String[] {"{", "\"", " a  {b", " \"a\"b", " a b  c {d}e", "{a}b  c", "{}}"}) {
            refuses(list, ListWords.BAD);
        }
        refuses("{".repeat(1024), ListWords.BAD);
    }

    private static void longAndBad() {
        Check.sentence("9: BAD (of a LIST whose elements before it would be LONG)");
        refuses("; ".repeat(300) + "{", ListWords.BAD);
        refuses("; ".repeat(511) + " {", ListWords.BAD);
        refuses("; ".repeat(511) + " \"", ListWords.BAD);
    }
}
