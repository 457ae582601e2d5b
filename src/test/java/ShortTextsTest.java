/** All texts of up to four bytes out of those that mean something: read and written as the Model does. */
public final class ShortTextsTest {
    private static final String BYTES = "{}\"\\ \t\nx18a#;";
    private static final int MOST = 4;

    public static void main(String[] args) {
        from("");
        Check.finish();
    }

    private static void from(String text) {
        asList(text);
        asItem(text);
        for (int i = 0; i < BYTES.length() && text.length() < MOST; i++) {
            from(text + BYTES.charAt(i));
        }
    }

    private static void asList(String text) {
        ListWords x = Check.withList(text);
        Model model = new Model();
        model.list = text;
        String what = " of " + Check.shown(text);
        Check.same("count()" + what, x.count(), model.count());
        for (int k = -1; k <= model.count() || k <= 1; k++) {
            Check.same("element(" + k + ")" + what, x.element(k), model.element(k));
            Check.same("ITEM behind element(" + k + ")" + what, Check.itemOf(x), model.item);
        }
        Check.same("again()" + what, x.again(), model.again());
        Check.same("LIST behind again()" + what, Check.listOf(x), model.list);
    }

    private static void asItem(String text) {
        ListWords x = new ListWords();
        Model model = new Model();
        Check.item(x, text);
        model.item = text;
        String what = " of " + Check.shown(text);
        Check.same("append()" + what, x.append(), model.append());
        Check.same("append() again" + what, x.append(), model.append());
        Check.same("LIST behind append()" + what, Check.listOf(x), model.list);
        Check.same("count() behind append()" + what, x.count(), 2);
    }
}
