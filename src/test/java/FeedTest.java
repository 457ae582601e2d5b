/** Promise 2: feed. */
public final class FeedTest {
    public static void main(String[] args) {
        highestByteFirst();
        everyByteIsKept();
        fullTape();
        tapeOfJustTheMost();
        appendsBehindTheCut();
        Check.finish();
    }

    private static void highestByteFirst() {
        ListWords x = new ListWords();
        Check.same("feed", x.feed(0x01020304, 0x05060708, 0x090a0b0c, 0x0d0e0f10, 0x11121314), true);
        Check.same("list()", x.list(), 20);
        for (int i = 0; i < 20; i++) {
            Check.same("listAt(" + i + ")", x.listAt(i), i + 1);
        }
    }

    private static void everyByteIsKept() {
        ListWords x = new ListWords();
        x.feed(0xff80007f, -1, Integer.MIN_VALUE, Integer.MAX_VALUE, 0);
        x.item();
        int[] due = {255, 128, 0, 127, 255, 255, 255, 255, 128, 0, 0, 0, 127, 255, 255, 255, 0, 0, 0, 0, -1};
        for (int i = 0; i < due.length; i++) {
            Check.same("itemAt(" + i + ")", x.itemAt(i), due[i]);
        }
    }

    private static void fullTape() {
        ListWords x = new ListWords();
        for (int n = 1; n <= 51; n++) {
            Check.same("feed " + n, x.feed(n, n, n, n, n), true);
        }
        Check.same("feed 52", x.feed(0, 0, 0, 0, 0), false);
        Check.same("feed 53", x.feed(0, 0, 0, 0, 0), false);
        Check.same("bytes of a tape fed 51 times", x.list(), 1020);
        Check.same("its last byte", x.listAt(1019), 51);
        Check.same("feed to the empty tape", x.feed(0, 0, 0, 0, 0), true);
    }

    private static void tapeOfJustTheMost() {
        ListWords x = new ListWords();
        x.feed(0x01020304, 0, 0, 0, 0);
        x.end(4);
        for (int n = 1; n <= 51; n++) {
            Check.same("feed " + n + " behind 4 bytes", x.feed(n, n, n, n, n), true);
        }
        Check.same("feed to 1024 bytes", x.feed(0, 0, 0, 0, 0), false);
        Check.same("bytes", x.list(), 1024);
        Check.same("byte 3", x.listAt(3), 4);
        Check.same("byte 1023", x.listAt(1023), 51);

        x.feed(0, 0, 0, 0, 0);
        x.end(5);
        for (int n = 1; n <= 50; n++) {
            x.feed(0, 0, 0, 0, 0);
        }
        Check.same("feed to 1005 bytes", x.feed(0, 0, 0, 0, 0), false);
        Check.same("bytes of the refused", x.list(), 1005);
    }

    private static void appendsBehindTheCut() {
        ListWords x = new ListWords();
        x.feed(0x61616161, 0, 0, 0, 0);
        x.end(2);
        x.feed(0x62626262, 0, 0, 0, 0);
        x.end(5);
        x.list();
        Check.same("LIST", Check.listOf(x), "aabbb");
    }
}
