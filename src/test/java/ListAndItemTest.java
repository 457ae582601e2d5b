/** Promises 4 and 5, list and item; 10, wrap; 11 and 12, listAt and itemAt. */
public final class ListAndItemTest {
    public static void main(String[] args) {
        list();
        item();
        wrap();
        places();
        Check.finish();
    }

    private static void list() {
        ListWords x = new ListWords();
        Check.same("item()", Check.item(x, "xyz"), 3);
        Check.same("list()", Check.list(x, "{a b} c"), 7);
        Check.same("LIST", Check.listOf(x), "{a b} c");
        Check.same("ITEM stays", Check.itemOf(x), "xyz");
        Check.same("end(1) behind list()", x.end(1), false);
        Check.same("a shorter LIST", Check.list(x, "d"), 1);
        Check.same("LIST", Check.listOf(x), "d");
        Check.same("list() of the empty tape", x.list(), 0);
        Check.same("LIST", Check.listOf(x), "");
        Check.same("a LIST that is BAD", Check.list(x, "{a"), 2);
        Check.same("LIST", Check.listOf(x), "{a");
        Check.same("a long LIST", Check.list(x, "a".repeat(1024)), 1024);
    }

    private static void item() {
        ListWords x = new ListWords();
        Check.same("list()", Check.list(x, "xyz"), 3);
        Check.same("item()", Check.item(x, "{a b} c"), 7);
        Check.same("ITEM", Check.itemOf(x), "{a b} c");
        Check.same("LIST stays", Check.listOf(x), "xyz");
        Check.same("end(1) behind item()", x.end(1), false);
        Check.same("a shorter ITEM", Check.item(x, "d"), 1);
        Check.same("ITEM", Check.itemOf(x), "d");
        Check.same("item() of the empty tape", x.item(), 0);
        Check.same("ITEM", Check.itemOf(x), "");
        Check.same("a long ITEM", Check.item(x, "a".repeat(1024)), 1024);
    }

    private static void wrap() {
        ListWords x = new ListWords();
        Check.item(x, "old item");
        Check.list(x, " a {b ");
        Check.tape(x, "tape");
        Check.same("wrap() of a LIST that is BAD", x.wrap(), 6);
        Check.same("ITEM", Check.itemOf(x), " a {b ");
        Check.same("LIST", Check.listOf(x), "");
        Check.same("count()", x.count(), 0);
        Check.same("the tape stays", x.list(), 4);
        Check.same("LIST", Check.listOf(x), "tape");
        Check.same("the ITEM stays", Check.itemOf(x), " a {b ");
        x.list();
        Check.same("wrap() of the empty LIST", x.wrap(), 0);
        Check.same("ITEM", Check.itemOf(x), "");
        Check.list(x, "z".repeat(1024));
        Check.same("wrap() of a long LIST", x.wrap(), 1024);
        Check.same("last byte", x.itemAt(1023), 122);
        Check.same("behind it", x.itemAt(1024), ListWords.NONE);
        Check.same("append() of it", x.append(), 1024);
    }

    private static void places() {
        ListWords x = new ListWords();
        Check.list(x, "\u00ffab\u0000");
        Check.item(x, "\u0080c");
        int[] list = {255, 97, 98, 0, -1, -1};
        int[] item = {128, 99, -1, -1, -1, -1};
        for (int i = 0; i < list.length; i++) {
            Check.same("listAt(" + i + ")", x.listAt(i), list[i]);
            Check.same("itemAt(" + i + ")", x.itemAt(i), item[i]);
        }
        for (int i : new int[] {-1, -2, Integer.MIN_VALUE, 1023, 1024, 1025, Integer.MAX_VALUE}) {
            Check.same("listAt(" + i + ")", x.listAt(i), ListWords.NONE);
            Check.same("itemAt(" + i + ")", x.itemAt(i), ListWords.NONE);
        }
    }
}
