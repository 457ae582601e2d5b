import java.util.function.IntUnaryOperator;

/** Promises 11, listAt, and 12, itemAt. */
public final class PlacesTest {
    private static final int[] BELOW = {-1, -2, -256, -1024, Integer.MIN_VALUE, Integer.MIN_VALUE + 1};
    private static final int[] BEYOND = {1, 2, 1024, Integer.MAX_VALUE - 2048};

    public static void main(String[] args) {
        Check.sentence("11: Byte i of the LIST, 0 .. 255");
        Scene.with("\u0000\u0001a\u007f\u0080\u00ff", "other", "other").changesNothing();
        Check.sentence("12: Byte i of the ITEM");
        Scene.with("other", "\u0000\u0001a\u007f\u0080\u00ff", "other").changesNothing();
        for (int size : new int[] {0, 1, 2, 20, 1023, 1024}) {
            edges(size);
        }
        leftovers();
        Check.finish();
    }

    private static void edges(int size) {
        ListWords x = new ListWords();
        Check.list(x, size == 0 ? "" : "f" + "m".repeat(Math.max(0, size - 2)) + (size > 1 ? "l" : ""));
        Check.item(x, "i".repeat(1024 - size));
        edges("11, LIST of " + size, size, size > 1 ? 'l' : 'f', x::listAt);
        edges("12, ITEM of " + (1024 - size), 1024 - size, 'i', x::itemAt);
    }

    private static void edges(String what, int size, int last, IntUnaryOperator at) {
        Check.sentence(what + ": the last byte");
        if (size > 0) {
            Check.same("at " + (size - 1), at.applyAsInt(size - 1), last);
        }
        Check.sentence(what + ": NONE when there is none (below 0)");
        for (int i : BELOW) {
            Check.same("at " + i, at.applyAsInt(i), ListWords.NONE);
        }
        Check.sentence(what + ": NONE when there is none (beyond the last)");
        Check.same("at " + size, at.applyAsInt(size), ListWords.NONE);
        for (int i : BEYOND) {
            Check.same("at " + (size + i), at.applyAsInt(size + i), ListWords.NONE);
        }
        Check.same("at the highest number", at.applyAsInt(Integer.MAX_VALUE), ListWords.NONE);
    }

    private static void leftovers() {
        Check.sentence("11 and 12: NONE when there is none (where there was one before)");
        ListWords x = Check.withList("abc");
        Check.item(x, "def");
        Check.list(x, "g");
        Check.item(x, "h");
        Check.same("listAt(0)", x.listAt(0), 103);
        Check.same("listAt(1)", x.listAt(1), ListWords.NONE);
        Check.same("itemAt(0)", x.itemAt(0), 104);
        Check.same("itemAt(1)", x.itemAt(1), ListWords.NONE);
    }
}
