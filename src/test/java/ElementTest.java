/** Promise 7: element. */
public final class ElementTest {
    private static final String LIST = "a {b c} {} \"d\\te\"";

    public static void main(String[] args) {
        fromZeroOn();
        lastOne();
        emptyElement();
        longElement();
        beyondTheLast();
        belowZero();
        ofNoElements();
        bad();
        Check.finish();
    }

    private static Scene element(String list, int k) {
        return Scene.with(list, "old item", "tape").call("element(" + k + ")", x -> x.element(k));
    }

    private static void fromZeroOn() {
        Check.sentence("7: The ITEM becomes element k of the LIST (from 0 on): how many bytes");
        element(LIST, 0).answers(1).leaves(LIST, "a", "tape");
        element(LIST, 1).answers(3).leaves(LIST, "b c", "tape");
        element(" one ", 0).answers(3).leaves(" one ", "one", "tape");
        Scene.with("a bb ccc", "", "").call("element(2), element(0), element(1)",
            x -> x.element(2) * 100 + x.element(0) * 10 + x.element(1)).answers(312).leaves("a bb ccc", "bb", "");
    }

    private static void lastOne() {
        Check.sentence("7: The ITEM becomes element k of the LIST (the last one)");
        element(LIST, 3).answers(3).leaves(LIST, "d\te", "tape");
        element("a", 0).answers(1).leaves("a", "a", "tape");
        String most = "a ".repeat(511) + "xy";
        element(most, 511).answers(2).leaves(most, "xy", "tape");
        element(most, 510).answers(1).leaves(most, "a", "tape");
    }

    private static void emptyElement() {
        Check.sentence("7: The ITEM becomes element k of the LIST (an empty one)");
        element(LIST, 2).answers(0).leaves(LIST, "", "tape");
        element("{}", 0).answers(0).leaves("{}", "", "tape");
        element("\"\"", 0).answers(0).leaves("\"\"", "", "tape");
    }

    private static void longElement() {
        Check.sentence("7: The ITEM becomes element k of the LIST (of as many bytes as can be)");
        String bare = "ab".repeat(512);
        element(bare, 0).answers(1024).leaves(bare, bare, "tape");
        String inner = "x ".repeat(511);
        element("{" + inner + "}", 0).answers(1022).leaves("{" + inner + "}", inner, "tape");
        element("\"" + inner + "\"", 0).answers(1022).leaves("\"" + inner + "\"", inner, "tape");
        String backslashes = "\\".repeat(1024);
        element(backslashes, 0).answers(512).leaves(backslashes, "\\".repeat(512), "tape");
    }

    private static void beyondTheLast() {
        Check.sentence("7: NONE when there is none such (beyond the last)");
        for (int k : new int[] {4, 5, 512, 1024, 1025, Integer.MAX_VALUE}) {
            element(LIST, k).answers(ListWords.NONE).changesNothing();
        }
        for (int k : new int[] {1, 2, Integer.MAX_VALUE}) {
            element("a", k).answers(ListWords.NONE).changesNothing();
        }
        for (int k : new int[] {512, 513, 1024, Integer.MAX_VALUE}) {
            element("a ".repeat(512), k).answers(ListWords.NONE).changesNothing();
        }
    }

    private static void belowZero() {
        Check.sentence("7: NONE when there is none such (below 0)");
        for (int k : new int[] {-1, -2, -4, -1024, Integer.MIN_VALUE}) {
            element(LIST, k).answers(ListWords.NONE).changesNothing();
            element("", k).answers(ListWords.NONE).changesNothing();
        }
    }

    private static void ofNoElements() {
        Check.sentence("7: NONE when there is none such (in a LIST without elements)");
        for (int k : new int[] {0, 1, Integer.MAX_VALUE}) {
            element("", k).answers(ListWords.NONE).changesNothing();
            element(" \n ", k).answers(ListWords.NONE).changesNothing();
        }
    }

    private static void bad() {
        Check.sentence("7: BAD when the list is");
        for (String list : new String[] {"{", "\"", "a b {c", "a b {c}d e", "a \"b\"c"}) {
            for (int k : new int[] {0, 1, 2, 3, 1024, Integer.MAX_VALUE}) {
                element(list, k).answers(ListWords.BAD).changesNothing();
            }
        }
        // An element that stands before what can't be read is none either: the list is BAD.
        String late = "a ".repeat(511) + " {";
        element(late, 0).answers(ListWords.BAD).changesNothing();
        Check.sentence("7: BAD when the list is (with k below 0)");
        for (int k : new int[] {-1, Integer.MIN_VALUE}) {
            element("a {", k).answers(ListWords.BAD).changesNothing();
        }
    }
}
