import java.util.Random;

/** Promise 19: best. */
public final class BestTest {
    public static void main(String[] args) {
        wrongAsks();
        nothingLies();
        small();
        random();
        Due.finish();
    }

    private static void wrongAsks() {
        PeatBog x = new PeatBog();
        x.mill(0, 20);
        int[] wrongDays = {-1, 0, 4, Integer.MIN_VALUE, Integer.MAX_VALUE};
        for (int d : wrongDays) {
            for (int k = -2; k < 4; k++) {
                Due.due("best(" + d + ", " + k + ")", x.best(d, k), PeatBog.NONE);
            }
        }
        for (int d = 1; d <= 3; d++) {
            int[] wrong = {-2, d, d + 1, Integer.MIN_VALUE, Integer.MAX_VALUE};
            for (int k : wrong) {
                Due.due("best(" + d + ", " + k + ")", x.best(d, k), PeatBog.NONE);
            }
        }
    }

    private static void nothingLies() {
        PeatBog x = new PeatBog();
        x.track(9);
        for (int d = 1; d <= 3; d++) {
            Due.due("best(" + d + ", NONE)", x.best(d, PeatBog.NONE), 0);
            for (int k = 0; k < d; k++) {
                Due.due("best(" + d + ", " + k + ")", x.best(d, k), 9);
            }
        }
    }

    private static void small() {
        // 10 of weight two hours away are worth as much as staying: the least bay is told.
        PeatBog x = new PeatBog();
        x.track(9);
        x.mill(6, 1);
        Due.due("best(1, NONE)", x.best(1, PeatBog.NONE), 0);
        Due.due("best(1, 0)", x.best(1, 0), 7);
        Due.due("best(2, 0)", x.best(2, 0), 7);
        Due.due("best(2, 1)", x.best(2, 1), 7);
        x.track(8);
        Due.due("best(1, NONE)", x.best(1, PeatBog.NONE), 5);
        Due.due("best(1, 0)", x.best(1, 0), 7);

        // Wet and closed peat count, and the state is left as it is.
        PeatBog y = new PeatBog();
        y.mill(15, 20);
        Due.enact(y, "close 0 to 15 from 0 to 364;limit 0;");
        Due.due("best(1, NONE)", y.best(1, PeatBog.NONE), 130);
        Due.due("best(1, 0)", y.best(1, 0), 14);
        // Going there on the last day is as good: the least bays come first.
        Due.due("best(3, 0)", y.best(3, 0), 0);
        Due.due("best(3, 1)", y.best(3, 1), 0);
        Due.due("best(3, 2)", y.best(3, 2), 14);
        Due.due("count(1) untouched", y.count(1), 0);
        Due.due("bay(15, 2) untouched", y.bay(15, 2), 200);
    }

    private static void random() {
        Random random = new Random(3);
        for (int i = 0; i < 60; i++) {
            PeatBog x = new PeatBog();
            int often = 1 + random.nextInt(4);
            for (int b = 0; b < 16; b++) {
                if (random.nextInt(often) == 0) {
                    x.mill(b, 1 + random.nextInt(i % 2 == 0 ? 20 : 3));
                    if (random.nextBoolean()) {
                        x.ridge(b);
                    }
                }
            }
            x.track(random.nextInt(16));
            for (int d = 1; d <= 3; d++) {
                dueBest(x, d);
            }
        }
    }

    private static void dueBest(PeatBog x, int d) {
        int[] weight = new int[16];
        for (int b = 0; b < 16; b++) {
            weight[b] = x.bay(b, 2);
        }
        int[] best = lay(weight, x.count(1), d);
        Due.due("best(" + d + ", NONE)", x.best(d, PeatBog.NONE), best[0]);
        for (int k = 0; k < d; k++) {
            Due.due("best(" + d + ", " + k + ")", x.best(d, k), best[1 + k]);
        }
    }

    /** The best sum and its bays, by going through all of them day by day. */
    static int[] lay(int[] weight, int at, int days) {
        int[] best = null;
        if (days == 0) {
            return new int[] {0};
        }
        for (int to = 0; to < 16; to++) {
            int[] left = weight.clone();
            int sum = -5 * Math.abs(to - at);
            for (int b = 0; b < 16; b++) {
                if (Math.abs(b - to) <= 1) {
                    sum += left[b];
                    left[b] = 0;
                }
            }
            int[] rest = lay(left, to, days - 1);
            if (best == null || sum + rest[0] > best[0]) {
                best = new int[days + 1];
                best[0] = sum + rest[0];
                best[1] = to;
                System.arraycopy(rest, 1, best, 2, days - 1);
            }
        }
        return best;
    }
}
