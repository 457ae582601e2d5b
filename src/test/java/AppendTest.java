/** Promise 8: append. */
public final class AppendTest {
    public static void main(String[] args) {
        behindTheList();
        behindTheEmptyList();
        behindAnyByte();
        emptyItem();
        justFits();
        oneByteTooLong();
        farTooLong();
        afterARefusal();
        Check.finish();
    }

    private static Scene append(String list, String item) {
        return Scene.with(list, item, "tape").call("append()", ListWords::append);
    }

    private static void appends(String list, String item, String due) {
        append(list, item).answers(due.length()).leaves(due, item, "tape");
    }

    private static void refuses(String list, String item) {
        append(list, item).answers(ListWords.LONG).changesNothing();
    }

    private static void behindTheList() {
        Check.sentence("8: The ITEM is written behind the LIST (a byte 32 between): how many bytes it has then");
        appends("a", "b", "a b");
        appends("a {b}", "c d", "a {b} {c d}");
        appends("a", "{", "a \\{");
        Scene.with("", "#", "").call("append(), append()", x -> x.append() * 10 + x.append()).answers(37)
            .leaves("{#} {#}", "#", "");
    }

    private static void behindTheEmptyList() {
        Check.sentence("8: a byte 32 between, if it has any byte (it has none)");
        appends("", "a", "a");
        appends("", "a b", "{a b}");
        appends("", "", "{}");
        appends("", "{", "\\{");
        appends("", " ", "{ }");
    }

    private static void behindAnyByte() {
        Check.sentence("8: a byte 32 between, if it has any byte");
        appends(" ", "a", "  a");
        appends("a ", "b", "a  b");
        appends("\n", "a", "\n a");
        appends("{a", "b", "{a b");
        appends("\"", "b", "\" b");
        appends("a\\", "b", "a\\ b");
        appends("{}", "b", "{} b");
        appends("\u0000", "b", "\u0000 b");
    }

    private static void emptyItem() {
        Check.sentence("8: The ITEM is written behind the LIST (an empty ITEM)");
        appends("a", "", "a {}");
        appends("{}", "", "{} {}");
    }

    private static void justFits() {
        Check.sentence("8: LONG when more than 1024 (just so many)");
        appends("l".repeat(1022), "a", "l".repeat(1022) + " a");
        appends("l".repeat(1020), "abc", "l".repeat(1020) + " abc");
        appends("l".repeat(1021), "", "l".repeat(1021) + " {}");
        appends("l".repeat(1020), ";", "l".repeat(1020) + " {;}");
        appends("l".repeat(1021), "{", "l".repeat(1021) + " \\{");
        appends("l".repeat(1019), "\\\n", "l".repeat(1019) + " \\\\\\n");
        appends("l", "a".repeat(1022), "l " + "a".repeat(1022));
        appends("", "a".repeat(1024), "a".repeat(1024));
        appends("", " ".repeat(1022), "{" + " ".repeat(1022) + "}");
        appends("", "\\".repeat(512), "\\".repeat(1024));
        appends("", "{" + "a".repeat(1022), "\\{" + "a".repeat(1022));
        appends("", "#" + "a".repeat(1021), "{#" + "a".repeat(1021) + "}");
    }

    private static void oneByteTooLong() {
        Check.sentence("8: LONG, changing nothing, when more than 1024 (one byte more)");
        refuses("l".repeat(1023), "a");
        refuses("l".repeat(1021), "abc");
        refuses("l".repeat(1022), "");
        refuses("l".repeat(1021), ";");
        refuses("l".repeat(1022), "{");
        refuses("l".repeat(1020), "\\\n");
        refuses("l", "a".repeat(1023));
        refuses("", " ".repeat(1023));
        refuses("", "{" + "a".repeat(1023));
        refuses("", "#" + "a".repeat(1022));
        refuses("", "\\" + "a".repeat(1023));
    }

    private static void farTooLong() {
        Check.sentence("8: LONG, changing nothing, when more than 1024");
        refuses("l".repeat(1024), "a");
        refuses("l".repeat(1024), "");
        refuses("l".repeat(1023), "");
        refuses("l", "a".repeat(1024));
        refuses("l".repeat(1024), "a".repeat(1024));
        refuses("", "\\".repeat(513));
        refuses("", "\\".repeat(1024));
        refuses("", " ".repeat(1024));
        refuses("l".repeat(1000), "{" + " ".repeat(1023));
        refuses("{" + "l".repeat(1023), "a");
    }

    private static void afterARefusal() {
        Check.sentence("8: LONG, changing nothing: what fits later is written behind the old bytes");
        String list = "l".repeat(1021);
        Scene.with(list, "abc", "z").call("append(), end(1), item(), append()",
            x -> x.append() == ListWords.LONG && x.end(1) && x.item() == 1 ? x.append() : 0).answers(1023)
            .leaves(list + " z", "z", "");
    }
}
