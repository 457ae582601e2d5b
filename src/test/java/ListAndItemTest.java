/** Promises 4, list, and 5, item. */
public final class ListAndItemTest {
    public static void main(String[] args) {
        list();
        listOfTheEmptyTape();
        listOfAFullTape();
        item();
        itemOfTheEmptyTape();
        itemOfAFullTape();
        Check.finish();
    }

    private static Scene list(String list, String item, String tape) {
        return Scene.with(list, item, tape).call("list()", ListWords::list).answers(tape.length());
    }

    private static Scene item(String list, String item, String tape) {
        return Scene.with(list, item, tape).call("item()", ListWords::item).answers(tape.length());
    }

    private static void list() {
        Check.sentence("4: The tape's bytes are the LIST (the tape is empty then): how many");
        list("", "", "a").leaves("a", "", "");
        list("old list", "old item", "{a b} c").leaves("{a b} c", "old item", "");
        list("a", "i", "longer than it was").leaves("longer than it was", "i", "");
        list("a", "i", " { is BAD").leaves(" { is BAD", "i", "");
        list("a", "i", "\u0000").leaves("\u0000", "i", "");
        Scene.with("a", "i", "tape").call("list(), list()", x -> x.list() + x.list()).answers(4).leaves("", "i", "");
    }

    private static void listOfTheEmptyTape() {
        Check.sentence("4: The tape's bytes are the LIST (of an empty tape)");
        list("", "", "").leaves("", "", "");
        list("old list", "old item", "").leaves("", "old item", "");
        list("m".repeat(1024), "i", "").leaves("", "i", "");
    }

    private static void listOfAFullTape() {
        Check.sentence("4: The tape's bytes are the LIST (of a full tape)");
        list("old", "i", "t".repeat(1024)).leaves("t".repeat(1024), "i", "");
        list("l".repeat(1024), "i".repeat(1024), "t".repeat(1024)).leaves("t".repeat(1024), "i".repeat(1024), "");
        list("l".repeat(1024), "i", "t").leaves("t", "i", "");
    }

    private static void item() {
        Check.sentence("5: The tape's bytes are the ITEM (the tape is empty then): how many");
        item("", "", "a").leaves("", "a", "");
        item("old list", "old item", "{a b} c").leaves("old list", "{a b} c", "");
        item("l", "a", "longer than it was").leaves("l", "longer than it was", "");
        item("l", "a", "\u0000").leaves("l", "\u0000", "");
        Scene.with("l", "a", "tape").call("item(), item()", x -> x.item() + x.item()).answers(4).leaves("l", "", "");
    }

    private static void itemOfTheEmptyTape() {
        Check.sentence("5: The tape's bytes are the ITEM (of an empty tape)");
        item("", "", "").leaves("", "", "");
        item("old list", "old item", "").leaves("old list", "", "");
        item("l", "m".repeat(1024), "").leaves("l", "", "");
    }

    private static void itemOfAFullTape() {
        Check.sentence("5: The tape's bytes are the ITEM (of a full tape)");
        item("l", "old", "t".repeat(1024)).leaves("l", "t".repeat(1024), "");
        item("l".repeat(1024), "i".repeat(1024), "t".repeat(1024)).leaves("l".repeat(1024), "t".repeat(1024), "");
        item("l", "i".repeat(1024), "t").leaves("l", "t", "");
    }
}
