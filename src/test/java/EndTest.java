/** Promise 3: end. */
public final class EndTest {
    private static final String TAPE = "abcdefghijklmnopqrst";

    public static void main(String[] args) {
        firstBytesCount();
        justAllBytes();
        noBytes();
        notSoMany();
        belowZero();
        cutBytesAreGone();
        Check.finish();
    }

    private static Scene end(String tape, int n) {
        return Scene.with("list", "item", tape).call("end(" + n + ")", x -> x.end(n));
    }

    private static void firstBytesCount() {
        Check.sentence("3: Of the tape only the first n bytes count");
        for (int n = 0; n <= TAPE.length(); n++) {
            end(TAPE, n).answers(true).leaves("list", "item", TAPE.substring(0, n));
        }
        String most = TAPE.repeat(51) + "wxyz";
        for (int n : new int[] {1, 1003, 1004, 1020, 1023}) {
            end(most, n).answers(true).leaves("list", "item", most.substring(0, n));
        }
    }

    private static void justAllBytes() {
        Check.sentence("3: false when it has not so many (it just has them)");
        end("", 0).answers(true).changesNothing();
        end("a", 1).answers(true).changesNothing();
        end(TAPE, 20).answers(true).changesNothing();
        end(TAPE.repeat(51) + "wxyz", 1024).answers(true).changesNothing();
    }

    private static void noBytes() {
        Check.sentence("3: false when n is below 0 (it is 0)");
        end(TAPE, 0).answers(true).leaves("list", "item", "");
        end("t".repeat(1024), 0).answers(true).leaves("list", "item", "");
    }

    private static void notSoMany() {
        Check.sentence("3: false, changing nothing, when it has not so many");
        for (int n : new int[] {1, 2, 20, 1024, 1025, Integer.MAX_VALUE}) {
            end("", n).answers(false).changesNothing();
        }
        for (int n : new int[] {21, 22, 40, 1024, Integer.MAX_VALUE}) {
            end(TAPE, n).answers(false).changesNothing();
        }
        for (int n : new int[] {1025, 1026, 2048, Integer.MAX_VALUE}) {
            end("t".repeat(1024), n).answers(false).changesNothing();
        }
    }

    private static void belowZero() {
        Check.sentence("3: false, changing nothing, when n is below 0");
        for (int n : new int[] {-1, -2, -20, -1024, Integer.MIN_VALUE}) {
            end("", n).answers(false).changesNothing();
            end(TAPE, n).answers(false).changesNothing();
            end("t".repeat(1024), n).answers(false).changesNothing();
        }
    }

    private static void cutBytesAreGone() {
        Check.sentence("3: only the first n bytes count: the others are no bytes of the tape then");
        Scene.with("", "", TAPE).call("end(19), end(20)", x -> x.end(19) && x.end(20)).answers(false)
            .leaves("", "", TAPE.substring(0, 19));
        Scene.with("", "", TAPE).call("end(0), end(1)", x -> x.end(0) && x.end(1)).answers(false)
            .leaves("", "", "");
        Scene.with("", "", TAPE).call("end(2), feed", x -> x.end(2) && Check.feed(x, "ABCDEFGHIJKLMNOPQRST", 0))
            .answers(true).leaves("", "", "abABCDEFGHIJKLMNOPQRST");
    }
}
