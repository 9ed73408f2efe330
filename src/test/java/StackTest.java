/** Promise 6: stack. */
public final class StackTest {
    public static void main(String[] args) {
        PeatBog x = new PeatBog();
        Due.passDays(x, 3);
        for (int s = 0; s < 10; s++) {
            Due.due("stackOf of one not begun", x.stackOf(s, 2), PeatBog.NONE);
            Due.due("stack()", x.stack(), s);
            int[] due = {0, 0, 10, PeatBog.NONE, 0, 3 + s, PeatBog.NONE, 0, 0};
            for (int what = 0; what < due.length; what++) {
                Due.due("stackOf(" + s + ", " + what + ")", x.stackOf(s, what), due[what]);
            }
            x.day(1, 1, 1);
        }
        Due.due("the eleventh", x.stack(), PeatBog.NONE);
        Due.due("count(10)", x.count(10), 10);
        Due.due("stackOf(10, 0)", x.stackOf(10, 0), PeatBog.NONE);
        Due.due("stackOf(9, 5)", x.stackOf(9, 5), 12);
        allTen();
        Due.finish();
    }

    /** Each of ten stacks is heated, taken from, turned and counted. */
    private static void allTen() {
        PeatBog x = new PeatBog();
        for (int s = 0; s < 10; s++) {
            x.stack();
            Due.bring(x, s, 2, s);
        }
        Due.enact(x, "if tons < 11 then send;if tons > 10 then turn;");
        x.want(30);
        Due.due("lasts()", x.lasts(), 6);
        x.day(0, 0, 0);
        Due.due("count(9)", x.count(9), 170);
        Due.due("stackOf(9, 2)", x.stackOf(9, 2), 13);
        x.want(0);
        Due.passDays(x, 6);
        Due.due("the emptied first", x.stackOf(0, 8), 0);
        Due.due("the second is sent", x.stackOf(1, 8), 1);
        Due.due("the tenth is turned", x.stackOf(9, 7), 1);
        Due.due("count(4)", x.count(4), 10);
        x.want(160);
        Due.due("lasts()", x.lasts(), 1);
        x.day(0, 0, 0);
        Due.due("count(9)", x.count(9), 10);
        Due.due("stackOf(9, 0)", x.stackOf(9, 0), 10);
    }
}
