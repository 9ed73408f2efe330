/** Promise 18: stackOf. */
public final class StackOfTest {
    public static void main(String[] args) {
        PeatBog x = new PeatBog();
        Due.passDays(x, 4);
        x.stack();
        x.stack();
        x.stack();
        dueStack(x, 1, new int[] {0, 0, 10, -1, 0, 4, -1, 0, 0});
        Due.bring(x, 0, 4, 0);
        Due.bring(x, 1, 5, 1);
        Due.bring(x, 2, 6, 2);
        x.read(1, 70);
        x.read(2, 80);
        Due.enact(x, "if heat = 70 then turn;if heat = 80 then send;");
        Due.passDays(x, 3);
        dueStack(x, 0, new int[] {40, 800, 19, -1, 0, 4, -1, 0, 0});
        dueStack(x, 1, new int[] {50, 800, 10, 70, 0, 4, -1, 1, 0});
        dueStack(x, 2, new int[] {0, 800, 19, 80, 0, 4, -1, 0, 1});
        Due.passDays(x, 27);
        dueStack(x, 0, new int[] {40, 800, 100, -1, 1, 4, 33, 0, 0});
        x.day(0, 0, 0);
        dueStack(x, 0, new int[] {36, 800, 100, -1, 1, 4, 33, 0, 0});
        Due.due("read of one that burns", x.read(0, 100), true);
        dueStack(x, 0, new int[] {36, 800, 100, 100, 1, 4, 33, 0, 0});

        int[] wrong = {-1, 9, Integer.MIN_VALUE, Integer.MAX_VALUE};
        for (int what : wrong) {
            Due.due("stackOf(0, " + what + ")", x.stackOf(0, what), PeatBog.NONE);
        }
        int[] wrongStacks = {-1, 3, 9, 10, Integer.MIN_VALUE, Integer.MAX_VALUE};
        for (int stack : wrongStacks) {
            for (int what = -1; what < 10; what++) {
                Due.due("stackOf(" + stack + ", " + what + ")", x.stackOf(stack, what), PeatBog.NONE);
            }
        }
        Due.finish();
    }

    private static void dueStack(PeatBog x, int stack, int[] want) {
        for (int what = 0; what < want.length; what++) {
            Due.due("stackOf(" + stack + ", " + what + ")", x.stackOf(stack, what), want[what]);
        }
    }
}
