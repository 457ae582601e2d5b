/** Promise 10: wrap. */
public final class WrapTest {
    public static void main(String[] args) {
        wrap();
        wrapOfTheEmptyList();
        wrapOfAFullList();
        wrapTwice();
        Check.finish();
    }

    private static Scene wrap(String list, String item, String tape) {
        return Scene.with(list, item, tape).call("wrap()", ListWords::wrap).answers(list.length());
    }

    private static void wrap() {
        Check.sentence("10: The ITEM becomes the LIST, and the LIST is empty: how many bytes the ITEM has");
        wrap("a {b c}", "old item", "tape").leaves("", "a {b c}", "tape");
        wrap("a", "", "").leaves("", "a", "");
        wrap("longer than it was", "i", "t").leaves("", "longer than it was", "t");
        wrap(" a {b ", "the LIST is BAD", "t").leaves("", " a {b ", "t");
        wrap(" ", "i", "t").leaves("", " ", "t");
    }

    private static void wrapOfTheEmptyList() {
        Check.sentence("10: The ITEM becomes the LIST (an empty one)");
        wrap("", "", "").leaves("", "", "");
        wrap("", "old item", "tape").leaves("", "", "tape");
        wrap("", "i".repeat(1024), "").leaves("", "", "");
    }

    private static void wrapOfAFullList() {
        Check.sentence("10: The ITEM becomes the LIST (a full one)");
        String list = "l".repeat(1024);
        wrap(list, "", "").leaves("", list, "");
        wrap(list, "i".repeat(1024), "t".repeat(1024)).leaves("", list, "t".repeat(1024));
    }

    private static void wrapTwice() {
        Check.sentence("10: the LIST is empty then");
        Scene.with("a b", "i", "t").call("wrap(), wrap()", x -> x.wrap() * 10 + x.wrap()).answers(30)
            .leaves("", "", "t");
        Scene.with("a b", "i", "t").call("wrap(), append()", x -> x.wrap() * 10 + x.append()).answers(35)
            .leaves("{a b}", "a b", "t");
        Scene.with("a {", "i", "t").call("wrap(), count()", x -> x.wrap() * 10 + x.count()).answers(30)
            .leaves("", "a {", "t");
    }
}
