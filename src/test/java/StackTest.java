/** Promise 6: stack. */
public final class StackTest {
    public static void main(String[] args) {
        PeatBog x = new PeatBog();
        Due.passDays(x, 3);
        for (int s = 0; s < 10; s++) {
            Due.due("stackOf of one not begun", x.stackOf(s, 2), PeatBog.NONE);
            Due.due("stack()", x.stack(), s);
            int[] due = {0, 0, 10, PeatBog.NONE, 0, 3 + s, PeatBog.NONE, 0, 0};
            for (int what = 0; what < due.length; what++) {
                Due.due("stackOf(" + s + ", " + what + ")", x.stackOf(s, what), due[what]);
            }
            x.day(1, 1, 1);
        }
        Due.due("the eleventh", x.stack(), PeatBog.NONE);
        Due.due("count(10)", x.count(10), 10);
        Due.due("stackOf(10, 0)", x.stackOf(10, 0), PeatBog.NONE);
        Due.due("stackOf(9, 5)", x.stackOf(9, 5), 12);
        Due.finish();
    }
}
