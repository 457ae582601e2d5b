import java.util.ArrayList;
import java.util.Arrays;
import java.util.Collections;
import java.util.List;
import java.util.Map;
import java.util.Random;
import java.util.TreeMap;

/**
 * Runs of up to 512 calls on one object, in which the calls of all promises come in turn, each answer
 * held against the Model. The runs are the same each time.
 */
public final class TurnsTest {
    private static final int MOST_CALLS = 512;
    private static final int RUNS = 1200;
    private static final List<String> CALLS = List.of("feed", "end", "list", "item", "count", "element",
        "append", "again", "wrap", "listAt", "itemAt");
    private static final int[] FAR = {Integer.MIN_VALUE, Integer.MIN_VALUE + 1, -1025, -1024, -1, 1023, 1024, 1025,
        Integer.MAX_VALUE - 1, Integer.MAX_VALUE};
    private static final String[] PIECES = {"a", "bc", " ", "  ", "\t", "\n", "{", "}", "{}", "{a b}", "{c {d} e}",
        "\"\"", "\"f g\"", "\\", "\\ ", "\\{", "\\}", "\\\"", "\\\\", "\\n", "\\x41", "\\x", "\\101", "\\777", "\\\n ",
        "#", ";", "$h", "[i]", "\u0000", "\u00ff", "\u000b", "\f", "\r"};
    /** These are never BAD, and longer when they are written: long LISTs of them are LONG in again(). */
    private static final String[] GROWING = {"a", "#", ";", "$h", "[i]", "}", "j{", "k\\x7d"};

    /** How often each call gave each kind of answer, in all runs: that the runs see all of the document. */
    private static final Map<String, Integer> ANSWERS = new TreeMap<>();

    private final Random random;
    private final String run;
    private final ListWords x = new ListWords();
    private final Model model = new Model();
    private final String[] pieces;
    private final String between;
    private int calls = 0;

    private TurnsTest(String kind, int seed) {
        random = new Random(seed);
        run = "run " + kind + " " + seed + ", call ";
        pieces = random.nextInt(3) == 0 ? GROWING : PIECES;
        between = pieces == PIECES && random.nextBoolean() ? "" : " ";
    }

    public static void main(String[] args) {
        Check.sentence("at most 512 calls, each promise's call once in each round");
        for (int seed = 1; seed <= RUNS; seed++) {
            new TurnsTest("in rounds", seed).inRounds();
        }
        Check.sentence("at most 512 calls, some calls more often than others");
        for (int seed = 1; seed <= RUNS; seed++) {
            new TurnsTest("by weights", seed).byWeights();
        }
        Check.sentence("the runs meet every kind of answer");
        for (String answer : ("feed true,feed false,end true,end false,list number,item number,count number,count BAD,"
            + "element number,element NONE,element BAD,append number,append LONG,again number,again BAD,again LONG,"
            + "wrap number,listAt number,listAt NONE,itemAt number,itemAt NONE").split(",")) {
            Check.same(answer + " is met", ANSWERS.getOrDefault(answer, 0) >= 100, true);
        }
        Check.finish();
    }

    private void inRounds() {
        List<String> round = new ArrayList<>(CALLS);
        while (calls < MOST_CALLS) {
            Collections.shuffle(round, random);
            for (int i = 0; i < round.size() && calls < MOST_CALLS; i++) {
                makeCall(round.get(i));
            }
        }
    }

    /** Every call may come, but those that empty a text come less often, so that texts grow long. */
    private void byWeights() {
        List<String> drawn = new ArrayList<>(CALLS);
        for (String call : CALLS) {
            boolean empties = call.equals("end") || call.equals("list") || call.equals("item") || call.equals("wrap");
            drawn.addAll(Collections.nCopies(1 << random.nextInt(empties ? 5 : 9), call));
        }
        while (calls < MOST_CALLS) {
            makeCall(drawn.get(random.nextInt(drawn.size())));
        }
    }

    private void makeCall(String call) {
        calls++;
        switch (call) {
            case "feed": feed(); break;
            case "end": end(nearly(model.tape.length())); break;
            case "list": same("list()", x.list(), model.list()); break;
            case "item": same("item()", x.item(), model.item()); break;
            case "count": same("count()", x.count(), model.count()); break;
            case "element": element(nearly(Math.max(0, model.count()))); break;
            case "append": same("append()", x.append(), model.append()); break;
            case "again": same("again()", x.again(), model.again()); break;
            case "wrap": same("wrap()", x.wrap(), model.wrap()); break;
            case "listAt": listAt(nearly(model.list.length())); break;
            default: itemAt(nearly(model.item.length())); break;
        }
    }

    /** A number from 0 to just beyond the size; sometimes one at its edge, or a far one. */
    private int nearly(int size) {
        switch (random.nextInt(8)) {
            case 0: return FAR[random.nextInt(FAR.length)];
            case 1: case 2: return size - 2 + random.nextInt(4);
            default: return random.nextInt(size + 1);
        }
    }

    private void feed() {
        StringBuilder twenty = new StringBuilder();
        while (twenty.length() < 20) {
            twenty.append(pieces[random.nextInt(pieces.length)]).append(between);
        }
        twenty.setLength(20);
        String text = twenty.toString();
        same("feed of " + Check.shown(text), Check.feed(x, text, 0), model.feed(text));
    }

    private void end(int n) {
        same("end(" + n + ")", x.end(n), model.end(n));
    }

    private void element(int k) {
        same("element(" + k + ")", x.element(k), model.element(k));
    }

    private void listAt(int i) {
        same("listAt(" + i + ")", x.listAt(i), at(model.list, i));
    }

    private void itemAt(int i) {
        same("itemAt(" + i + ")", x.itemAt(i), at(model.item, i));
    }

    private static int at(String text, int i) {
        return i >= 0 && i < text.length() ? text.charAt(i) : ListWords.NONE;
    }

    private void same(String call, Object got, Object due) {
        Check.same(run + calls + ", " + call, got, due);
        String name = call.split("\\(| ")[0];
        boolean refused = due instanceof Integer && (Integer) due < 0;
        String answer = refused ? Arrays.asList("NONE", "BAD", "LONG").get(-1 - (Integer) due)
            : due instanceof Integer ? "number" : due.toString();
        ANSWERS.merge(name + " " + answer, 1, Integer::sum);
    }
}
