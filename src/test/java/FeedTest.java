/** Promise 2: feed. */
public final class FeedTest {
    private static final String FED = "ABCDEFGHIJKLMNOPQRST";

    public static void main(String[] args) {
        appendsTwenty();
        highestFirst();
        justTheMost();
        moreThanTheMost();
        afterARefusal();
        Check.finish();
    }

    private static boolean feed(ListWords x) {
        return x.feed(0x41424344, 0x45464748, 0x494a4b4c, 0x4d4e4f50, 0x51525354);
    }

    private static void appendsTwenty() {
        Check.sentence("2: Appends twenty bytes to the tape");
        Scene.with("l", "i", "").call("feed", FeedTest::feed).answers(true).leaves("l", "i", FED);
        Scene.with("l", "i", "t").call("feed", FeedTest::feed).answers(true).leaves("l", "i", "t" + FED);
        Scene.with("", "", FED).call("feed", FeedTest::feed).answers(true).leaves("", "", FED + FED);
        Scene.with("", "", "").call("feed of zeros", x -> x.feed(0, 0, 0, 0, 0)).answers(true)
            .leaves("", "", "\u0000".repeat(20));
    }

    private static void highestFirst() {
        Check.sentence("2: of each number the highest first");
        Scene.with("", "", "")
            .call("feed", x -> x.feed(0xff80007f, -1, Integer.MIN_VALUE, Integer.MAX_VALUE, 0x01020304))
            .answers(true)
            .leaves("", "", "\u00ff\u0080\u0000\u007f" + "\u00ff\u00ff\u00ff\u00ff"
                + "\u0080\u0000\u0000\u0000" + "\u007f\u00ff\u00ff\u00ff" + "\u0001\u0002\u0003\u0004");
    }

    private static void justTheMost() {
        Check.sentence("2: false when it would have more than 1024 (it would have just so many)");
        String tape = "t".repeat(1004);
        Scene.with("l", "i", tape).call("feed", FeedTest::feed).answers(true).leaves("l", "i", tape + FED);
        tape = "t".repeat(1003);
        Scene.with("l", "i", tape).call("feed", FeedTest::feed).answers(true).leaves("l", "i", tape + FED);
    }

    private static void moreThanTheMost() {
        Check.sentence("2: false, changing nothing, when it would have more than 1024");
        for (int size : new int[] {1005, 1006, 1020, 1023, 1024}) {
            Scene.with("l", "i", "t".repeat(size)).call("feed", FeedTest::feed).answers(false).changesNothing();
        }
        String most = "m".repeat(1024);
        Scene.with(most, most, most).call("feed", FeedTest::feed).answers(false).changesNothing();
    }

    private static void afterARefusal() {
        Check.sentence("2: false, changing nothing: what is fed later comes behind the old bytes");
        String tape = "t".repeat(1024);
        Scene.with("", "", tape).call("feed, feed", x -> feed(x) || feed(x)).answers(false).changesNothing();
        Scene.with("", "", tape).call("feed, end(1004), feed", x -> {
            feed(x);
            x.end(1004);
            return feed(x);
        }).answers(true).leaves("", "", "t".repeat(1004) + FED);
        Scene.with("", "", tape).call("feed, list(), feed", x -> {
            feed(x);
            x.list();
            return feed(x);
        }).answers(true).leaves(tape, "", FED);
    }
}
