import java.util.function.Function;
import java.util.function.IntUnaryOperator;

/**
 * An object with a LIST, an ITEM and a tape, one call on it, and all that must be so then. As an
 * object is good for 512 calls only, the scene is played anew for each stretch that is looked at.
 */
final class Scene {
    private static final int STRETCH = 300;

    private final String list;
    private final String item;
    private final String tape;
    private String name = "no call";
    private Function<ListWords, Object> call = x -> "";

    private Scene(String list, String item, String tape) {
        this.list = list;
        this.item = item;
        this.tape = tape;
    }

    static Scene with(String list, String item, String tape) {
        return new Scene(list, item, tape);
    }

    Scene call(String name, Function<ListWords, Object> call) {
        this.name = name + " (LIST " + Check.shown(list) + ", ITEM " + Check.shown(item)
            + ", tape " + Check.shown(tape) + ")";
        this.call = call;
        return this;
    }

    Scene answers(Object due) {
        Check.same(name, call.apply(set()), due);
        return this;
    }

    /** Looks at every byte of all three texts, and at both sides of them. */
    void leaves(String dueList, String dueItem, String dueTape) {
        bytes("LIST", dueList, x -> x::listAt);
        bytes("ITEM", dueItem, x -> x::itemAt);
        Check.same(name + ": tape has its bytes", played().end(dueTape.length()), true);
        Check.same(name + ": tape has no more", played().end(dueTape.length() + 1), false);
        Check.same(name + ": tape", played().item(), dueTape.length());
        bytes("tape", dueTape, x -> {
            x.item();
            return x::itemAt;
        });
    }

    void changesNothing() {
        leaves(list, item, tape);
    }

    private ListWords set() {
        ListWords x = new ListWords();
        Check.list(x, list);
        Check.item(x, item);
        Check.tape(x, tape);
        return x;
    }

    private ListWords played() {
        ListWords x = set();
        call.apply(x);
        return x;
    }

    private void bytes(String what, String due, Function<ListWords, IntUnaryOperator> look) {
        for (int from = -1; from <= due.length(); from += STRETCH) {
            IntUnaryOperator at = look.apply(played());
            for (int i = from; i < from + STRETCH && i <= due.length(); i++) {
                int b = i >= 0 && i < due.length() ? due.charAt(i) : ListWords.NONE;
                Check.same(name + ": byte " + i + " of the " + what, at.applyAsInt(i), b);
            }
        }
    }
}
