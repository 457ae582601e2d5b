/** Terms: what a text is, and how long an object lasts. */
public final class TextTest {
    public static void main(String[] args) {
        rowOfBytes();
        atMost1024();
        last512thCall();
        laterCalls();
        Check.finish();
    }

    private static String everyByte(int size) {
        StringBuilder text = new StringBuilder();
        for (int i = 0; i < size; i++) {
            text.append((char) (i * 7 & 255));
        }
        return text.toString();
    }

    private static void rowOfBytes() {
        Check.sentence("A text is a row of bytes");
        String all = everyByte(256);
        Scene.with(all, all, all).changesNothing();
    }

    private static void atMost1024() {
        Check.sentence("A text is a row of bytes, at most 1024");
        String most = everyByte(1024);
        Scene.with(most, most, most).changesNothing();
        Scene.with("", "", most).call("list()", ListWords::list).answers(1024).leaves(most, "", "");
        Scene.with("", "", most).call("item()", ListWords::item).answers(1024).leaves("", most, "");
        Scene.with(most, "", "").call("wrap()", ListWords::wrap).answers(1024).leaves("", most, "");
        String word = "w".repeat(1024);
        Scene.with(word, "", "").call("element(0)", x -> x.element(0)).answers(1024).leaves(word, word, "");
        Scene.with("", word, "").call("append()", ListWords::append).answers(1024).leaves(word, word, "");
        Scene.with(word, "", "").call("again()", ListWords::again).answers(1024).changesNothing();
    }

    private static void last512thCall() {
        Check.sentence("An object is used for at most 512 calls");
        ListWords x = new ListWords();
        for (int call = 1; call < 512; call++) {
            int due = 3 * call - 1;
            Check.same("append() as call " + call, x.append(), due <= 1024 ? due : ListWords.LONG);
        }
        Check.same("count() as call 512", x.count(), 341);
    }

    /** No answer is looked at here: that no call throws, in whatever state, is all that is asked. */
    private static void laterCalls() {
        Check.sentence("what later calls answer is free (none throws: LANGUAGE.md, rule 7)");
        ListWords x = new ListWords();
        for (int call = 0; call < 5000; call++) {
            int number = call * 0x2c1b3c6d;
            x.feed(number, number >>> 3, 0x7b5c207d, 0x22207b7d, number << 5);
            x.end(call % 7 == 0 ? number : 1100 - call % 1200);
            x.element(call % 5 == 0 ? number : call % 3);
            x.append();
            x.again();
            x.count();
            x.listAt(number);
            x.itemAt(number);
            if (call % 40 == 0) {
                x.list();
            } else if (call % 9 == 0) {
                x.item();
            } else if (call % 31 == 0) {
                x.wrap();
            }
        }
    }
}
