/** Promise 21: count. */
public final class CountTest {
    public static void main(String[] args) {
        PeatBog x = new PeatBog();
        x.stack();
        Due.bring(x, 3, 10, 0);
        Due.passDays(x, 30);
        Due.due("it burns", x.stackOf(0, 4), 1);
        x.stack();
        Due.bring(x, 5, 20, 1);
        x.stack();
        Due.bring(x, 1, 15, 2);
        Due.enact(x, "if tons < 151 then send;");
        Due.enact(x, "limit");
        x.want(40);
        x.day(0, 0, 0);
        Due.enact(x, "if tons < 151 then send;");
        x.day(0, 0, 0);
        x.want(250);
        Due.passDays(x, 2);
        x.want(3);
        x.day(0, 0, 0);
        Due.feedBytes(x, new byte[40]);
        // 31: 40 taken, 32: 40, 33: 250, 34: the last 20 (230 lack), 35: 3 lack.
        dueCounts(x, new int[] {35, 1, 9, 3, 0, 350, 233, 3, 40, 60, 3, 2, 40});

        PeatBog y = new PeatBog();
        y.stack();
        Due.bring(y, 2, 7, 0);
        Due.enact(y, "if tons = 70 then send;");
        Due.passDays(y, 7);
        y.want(30);
        y.day(0, 0, 0);
        dueCounts(y, new int[] {8, 2, 2, 30, 40, 30, 0, 0, 0, 0, 1, 1, 0});

        int[] wrong = {-1, 13, Integer.MIN_VALUE, Integer.MAX_VALUE};
        for (int what : wrong) {
            Due.due("count(" + what + ")", y.count(what), PeatBog.NONE);
        }
        Due.finish();
    }

    private static void dueCounts(PeatBog x, int[] want) {
        for (int what = 0; what < want.length; what++) {
            Due.due("count(" + what + ")", x.count(what), want[what]);
        }
    }
}
