/** Promise 1: LIST, ITEM and tape of a new object are empty. */
public final class NewObjectTest {
    public static void main(String[] args) {
        Check.same("listAt(0)", new ListWords().listAt(0), ListWords.NONE);
        Check.same("itemAt(0)", new ListWords().itemAt(0), ListWords.NONE);
        Check.same("end(1)", new ListWords().end(1), false);
        Check.same("end(0)", new ListWords().end(0), true);
        Check.same("list()", new ListWords().list(), 0);
        Check.same("item()", new ListWords().item(), 0);
        Check.same("count()", new ListWords().count(), 0);
        Check.same("element(0)", new ListWords().element(0), ListWords.NONE);
        Check.same("again()", new ListWords().again(), 0);
        Check.same("wrap()", new ListWords().wrap(), 0);
        Check.same("append()", new ListWords().append(), 2);
        objectsAreApart();
        Check.finish();
    }

    private static void objectsAreApart() {
        ListWords used = new ListWords();
        Check.list(used, "a b");
        Check.item(used, "c");
        Check.tape(used, "d");
        ListWords fresh = new ListWords();
        Check.same("listAt(0) beside a used object", fresh.listAt(0), ListWords.NONE);
        Check.same("itemAt(0) beside a used object", fresh.itemAt(0), ListWords.NONE);
        Check.same("end(1) beside a used object", fresh.end(1), false);
        Check.same("the used object's LIST", Check.listOf(used), "a b");
    }
}
