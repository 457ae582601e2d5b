import java.util.Random;

/** All promises at once: runs of up to 512 calls, the same each time, held against the Model. */
public final class RandomRunsTest {
    /** The first has all that is nasty; long texts of the others are not so often BAD. */
    private static final String[] ALPHABETS = {
        "{{}}\"\"\\\\\\   \t\n\u000b\f\r;$[]##abfnrtvx0178F9gzu\u0000\u0008\u000e\u001f!\u00ff\u0085\u00a0",
        "\\\\  \t\nx178afn#;",
        "   abc\\}#$",
        "a ",
    };
    private static final int RUNS = 6000;

    private final Random random;
    private final ListWords x = new ListWords();
    private final Model model = new Model();
    private final String run;
    private final String alphabet;
    private int callsLeft = 512;

    private RandomRunsTest(int seed) {
        random = new Random(seed);
        run = "run " + seed + ": ";
        alphabet = ALPHABETS[Math.max(0, random.nextInt(2 * ALPHABETS.length) - ALPHABETS.length)];
    }

    public static void main(String[] args) {
        for (int seed = 1; seed <= RUNS; seed++) {
            new RandomRunsTest(seed).go();
        }
        Check.finish();
    }

    private void go() {
        int most = random.nextInt(8) == 0 ? 1024 : 1 + random.nextInt(60);
        while (callsLeft >= 60) {
            switch (random.nextInt(12)) {
                case 0: case 1: fillTape(random.nextInt(most + 1)); same("list", x.list(), model.list()); break;
                case 2: fillTape(random.nextInt(most + 1)); same("item", x.item(), model.item()); break;
                case 3: same("count", x.count(), model.count()); break;
                case 4: case 5: element(); break;
                case 6: case 7: same("append", x.append(), model.append()); break;
                case 8: same("again", x.again(), model.again()); break;
                case 9: if (random.nextInt(3) == 0) { same("wrap", x.wrap(), model.wrap()); } break;
                case 10: lookAt(random.nextInt(1100) - 20); break;
                default: lookAt(random.nextInt(most)); break;
            }
        }
        while (callsLeft >= 2) {
            lookAt(callsLeft / 2);
        }
    }

    private void same(String call, Object got, Object due) {
        callsLeft--;
        Check.same(run + call, got, due);
    }

    private void element() {
        int k = random.nextBoolean() ? model.count() - 3 + random.nextInt(5) : random.nextInt(530) - 4;
        same("element(" + k + ") of " + Check.shown(model.list), x.element(k), model.element(k));
        lookAt(random.nextInt(model.item.length() + 1));
    }

    private void lookAt(int i) {
        same("listAt(" + i + ")", x.listAt(i), at(model.list, i));
        same("itemAt(" + i + ")", x.itemAt(i), at(model.item, i));
    }

    private static int at(String text, int i) {
        return i >= 0 && i < text.length() ? text.charAt(i) : -1;
    }

    private void fillTape(int bytes) {
        cut(random.nextInt(20));
        while (model.tape.length() < bytes && callsLeft >= 60) {
            StringBuilder twenty = new StringBuilder();
            for (int i = 0; i < 20; i++) {
                twenty.append(alphabet.charAt(random.nextInt(alphabet.length())));
            }
            boolean fed = Check.feed(x, twenty.toString(), 0);
            boolean due = model.feed(twenty.toString());
            same("feed", fed, due);
            if (!due) {
                return;
            }
        }
        cut(bytes);
    }

    private void cut(int n) {
        same("end(" + n + ")", x.end(n), model.end(n));
    }
}
