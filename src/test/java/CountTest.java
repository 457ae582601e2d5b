/** Promise 6: count. */
public final class CountTest {
    public static void main(String[] args) {
        howMany();
        noElements();
        mostElements();
        bad();
        Check.finish();
    }

    private static void counts(String list, int due) {
        Scene.with(list, "old item", "tape").call("count()", ListWords::count).answers(due).changesNothing();
    }

    private static void howMany() {
        Check.sentence("6: How many elements the LIST has");
        counts("a", 1);
        counts("a b", 2);
        counts(" a {b c} \"d e\" f\\ g {} \"\" ", 6);
        Scene.with("a b c", "", "").call("count(), count()", x -> x.count() * 10 + x.count()).answers(33).changesNothing();
        Scene.with("a b c", "", "").call("element(1), count()", x -> x.element(1) * 10 + x.count()).answers(13)
            .leaves("a b c", "b", "");
    }

    private static void noElements() {
        Check.sentence("6: How many elements the LIST has (none)");
        counts("", 0);
        counts(" ", 0);
        counts(" \t\n\u000b\f\r ", 0);
        counts(" ".repeat(1024), 0);
    }

    private static void mostElements() {
        Check.sentence("6: How many elements the LIST has (in 1024 bytes)");
        counts("a".repeat(1024), 1);
        counts("a ".repeat(512), 512);
        counts(" a".repeat(512), 512);
        counts("{} ".repeat(341) + "a", 342);
        counts("\"\"\n".repeat(341) + "\\", 342);
        counts("{".repeat(512) + "}".repeat(512), 1);
        counts("{" + " ".repeat(1022) + "}", 1);
        counts("\"" + " ".repeat(1022) + "\"", 1);
    }

    private static void bad() {
        Check.sentence("6: BAD");
        for (String list : new String[] {"{", "\"", "a b {c", "{a}b c d", "a \"b\"c d", " \"a b"}) {
            counts(list, ListWords.BAD);
        }
        counts("a ".repeat(511) + "a{", 512);
        counts("a ".repeat(511) + " {", ListWords.BAD);
        counts("a ".repeat(511) + " \"", ListWords.BAD);
        counts("{}a" + " a".repeat(510), ListWords.BAD);
        counts("{".repeat(513) + "}".repeat(511), ListWords.BAD);
        counts("{".repeat(511) + "}".repeat(513), ListWords.BAD);
        counts("{".repeat(1024), ListWords.BAD);
    }
}
