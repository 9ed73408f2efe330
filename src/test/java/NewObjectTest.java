/** Promise 1: bays that rest, no stacks, no law. */
public final class NewObjectTest {
    public static void main(String[] args) {
        PeatBog x = new PeatBog();
        for (int b = 0; b < 16; b++) {
            int[] due = {1000, 0, 0, 0, 0, PeatBog.NONE, 0, PeatBog.NONE};
            for (int what = 0; what < due.length; what++) {
                Due.due("bay(" + b + ", " + what + ")", x.bay(b, what), due[what]);
            }
            Due.due("bars(" + b + ")", x.bars(b), 1);
        }
        for (int what = 0; what <= 12; what++) {
            Due.due("count(" + what + ")", x.count(what), 0);
        }
        Due.due("stackOf(0, 0)", x.stackOf(0, 0), PeatBog.NONE);
        Due.due("tells(0, 0)", x.tells(0, 0), 550);
        Due.due("tells(0, 1)", x.tells(0, 1), 0);
        Due.due("tells(1000, 2)", x.tells(1000, 2), PeatBog.NONE);
        Due.due("tells(0, 10)", x.tells(0, 10), 0);
        Due.due("fault()", x.fault(), PeatBog.NONE);
        Due.due("lasts()", x.lasts(), PeatBog.NONE);
        Due.due("best(3, NONE)", x.best(3, PeatBog.NONE), 0);

        // Two objects share nothing.
        PeatBog y = new PeatBog();
        y.mill(0, 1);
        y.stack();
        Due.enact(y, "limit 1;");
        Due.due("bay(0, 1) of the first", x.bay(0, 1), 0);
        Due.due("count(10) of the first", x.count(10), 0);
        Due.due("tells(0, 0) of the first", x.tells(0, 0), 550);
        Due.finish();
    }
}
