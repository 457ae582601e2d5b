/** Promise 1: a new object. */
public final class NewObjectTest {
    public static void main(String[] args) {
        listIsEmpty();
        itemIsEmpty();
        tapeIsEmpty();
        objectsAreApart();
        Check.finish();
    }

    private static void listIsEmpty() {
        Check.sentence("1: LIST is empty");
        Check.same("listAt(0)", new ListWords().listAt(0), ListWords.NONE);
        Check.same("count()", new ListWords().count(), 0);
        Check.same("element(0)", new ListWords().element(0), ListWords.NONE);
        Check.same("again()", new ListWords().again(), 0);
        Check.same("wrap()", new ListWords().wrap(), 0);
    }

    private static void itemIsEmpty() {
        Check.sentence("1: ITEM is empty");
        Check.same("itemAt(0)", new ListWords().itemAt(0), ListWords.NONE);
        ListWords x = new ListWords();
        Check.same("append()", x.append(), 2);
        Check.same("LIST", Check.listOf(x), "{}");
    }

    private static void tapeIsEmpty() {
        Check.sentence("1: tape is empty");
        Check.same("end(0)", new ListWords().end(0), true);
        Check.same("end(1)", new ListWords().end(1), false);
        Check.same("list()", new ListWords().list(), 0);
        Check.same("item()", new ListWords().item(), 0);
    }

    private static void objectsAreApart() {
        Check.sentence("All memory is the class's own; 1: LIST, ITEM and tape are empty");
        ListWords used = new ListWords();
        Check.list(used, "a b");
        Check.item(used, "c");
        Check.tape(used, "d");
        ListWords fresh = new ListWords();
        Check.same("listAt(0) beside a used object", fresh.listAt(0), ListWords.NONE);
        Check.same("itemAt(0) beside a used object", fresh.itemAt(0), ListWords.NONE);
        Check.same("end(1) beside a used object", fresh.end(1), false);
        Check.same("the used object's LIST", Check.listOf(used), "a b");
    }
}
