/** Promise 3: end. */
public final class EndTest {
    public static void main(String[] args) {
        ListWords x = new ListWords();
        Check.feed(x, "abcdefghijklmnopqrst", 0);
        Check.same("end(21)", x.end(21), false);
        Check.same("end(-1)", x.end(-1), false);
        Check.same("end(lowest)", x.end(Integer.MIN_VALUE), false);
        Check.same("end(highest)", x.end(Integer.MAX_VALUE), false);
        Check.same("end(20)", x.end(20), true);
        Check.same("end(19)", x.end(19), true);
        Check.same("end(20) when 19 are left", x.end(20), false);
        Check.same("end(3)", x.end(3), true);
        Check.same("end(4) when 3 are left", x.end(4), false);
        Check.same("end(-1) when 3 are left", x.end(-1), false);
        Check.same("list()", x.list(), 3);
        Check.same("LIST", Check.listOf(x), "abc");
        Check.same("end(1) of the empty tape", x.end(1), false);
        Check.same("end(0) of the empty tape", x.end(0), true);

        Check.feed(x, "abcdefghijklmnopqrst", 0);
        Check.same("end(0)", x.end(0), true);
        Check.same("item()", x.item(), 0);

        Check.tape(x, "a".repeat(1024));
        Check.same("end(1025)", x.end(1025), false);
        Check.same("end(1024)", x.end(1024), true);
        Check.same("LIST stays", Check.listOf(x), "abc");
        Check.finish();
    }
}
