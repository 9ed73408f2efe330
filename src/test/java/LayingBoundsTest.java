/** The bounds of the track and of the best laying (the document's part 3). */
public final class LayingBoundsTest {
    private static final int NONE = PeatBog.NONE;

    public static void main(String[] args) {
        trackHours();
        dayRange();
        kRange();
        rowEnds();
        oneAway();
        gatheredOnce();
        hoursCount();
        worthTheWay();
        leastBayFirst();
        leastBayNext();
        whateverWet();
        Due.finish();
    }

    private static void dueBest(PeatBog x, int sum, int... bays) {
        String d = "best(" + bays.length + ", ";
        Due.due(d + "NONE)", x.best(bays.length, NONE), sum);
        for (int k = 0; k < bays.length; k++) {
            Due.due(d + k + ")", x.best(bays.length, k), bays[k]);
        }
    }

    private static void trackHours() {
        Due.of("THE TRACK lies at a BAY (0 at first); moving it costs 1 HOUR a BAY.");
        PeatBog x = new PeatBog();
        Due.due("count(1)", x.count(1), 0);
        Due.due("track(0)", x.track(0), 0);
        Due.due("track(1)", x.track(1), 1);
        Due.due("track(15)", x.track(15), 14);
        Due.due("track(16)", x.track(16), NONE);
        Due.due("track(15)", x.track(15), 0);
        Due.due("track(0)", x.track(0), 15);
        Due.due("track(-1)", x.track(-1), NONE);
        Due.due("count(1)", x.count(1), 0);
        Due.due("count(2)", x.count(2), 30);
    }

    private static void dayRange() {
        Due.of("BEST LAYING for d DAYS (1 to 3)");
        PeatBog x = new PeatBog();
        x.mill(0, 1);
        for (int d = -1; d <= 5; d++) {
            boolean is = d >= 1 && d <= 3;
            Due.due("best(" + d + ", NONE)", x.best(d, NONE), is ? 10 : NONE);
            Due.due("best(" + d + ", 0)", x.best(d, 0), is ? 0 : NONE);
        }
    }

    private static void kRange() {
        Due.of("BEST LAYING: the sum (k NONE), the BAY on the k-th DAY. NONE: not as told.");
        PeatBog x = new PeatBog();
        x.track(5);
        x.mill(5, 9);
        for (int d = 1; d <= 3; d++) {
            for (int k = -3; k <= 4; k++) {
                Due.due("best(" + d + ", " + k + ")", x.best(d, k), k == NONE ? 90 : k >= 0 && k < d ? 5 : NONE);
            }
        }
    }

    private static void rowEnds() {
        Due.of("all that lies on BAYS at most 1 away is gathered");
        PeatBog x = new PeatBog();
        x.mill(0, 1);
        x.mill(1, 2);
        x.mill(15, 20);
        dueBest(x, 30 + 200 - 70, 0, 14);
        dueBest(x, 30 + 200 - 70, 0, 0, 14);
        x.track(15);
        dueBest(x, 200, 15);
        PeatBog y = new PeatBog();
        y.mill(15, 3);
        y.mill(14, 4);
        y.track(15);
        dueBest(y, 70, 15);
        dueBest(y, 70, 15, 15, 15);
    }

    private static void oneAway() {
        Due.of("all that lies on BAYS at most 1 away is gathered");
        PeatBog x = new PeatBog();
        x.track(7);
        x.mill(5, 1);
        x.mill(6, 1);
        x.mill(7, 1);
        x.mill(8, 1);
        x.mill(9, 1);
        dueBest(x, 30, 7);
        // Bays 5 and 9 are two away; of the ways that come to this sum 6 and then 8 is the least.
        dueBest(x, 50 - 15, 6, 8);
    }

    private static void gatheredOnce() {
        Due.of("what was gathered on a DAY ahead isn't there any more");
        PeatBog x = new PeatBog();
        x.mill(0, 20);
        dueBest(x, 200, 0);
        dueBest(x, 200, 0, 0);
        dueBest(x, 200, 0, 0, 0);
        PeatBog y = new PeatBog();
        y.mill(1, 20);
        y.mill(2, 20);
        y.mill(3, 20);
        // From 2 all three lie near, but what was gathered from 0 comes once.
        dueBest(y, 600 - 10, 2);
        dueBest(y, 600 - 10, 0, 2);
        dueBest(y, 600 - 10, 0, 0, 2);
    }

    private static void hoursCount() {
        Due.of("the greatest sum of WEIGHTS less 5 for each HOUR");
        PeatBog x = new PeatBog();
        x.mill(15, 20);
        dueBest(x, 200 - 14 * 5, 14);
        x.track(14);
        dueBest(x, 200, 14);
        x.track(13);
        dueBest(x, 195, 14);
        PeatBog y = new PeatBog();
        y.mill(2, 1);
        y.mill(8, 5);
        y.mill(14, 20);
        dueBest(y, 200 - 13 * 5, 13);
        dueBest(y, 250 - 13 * 5, 7, 13);
        dueBest(y, 260 - 13 * 5, 1, 7, 13);
    }

    private static void worthTheWay() {
        Due.of("the greatest sum of WEIGHTS less 5 for each HOUR");
        // 10 of peat are worth one hour, not three; at two it is all the same.
        int[] bays = {4, 5, 6, 7};
        int[] sums = {10, 5, 0, 0};
        int[] best = {3, 4, 3, 3};
        for (int i = 0; i < bays.length; i++) {
            PeatBog x = new PeatBog();
            x.track(3);
            x.mill(bays[i], 1);
            dueBest(x, sums[i], best[i]);
        }
    }

    private static void leastBayFirst() {
        Due.of("of several the least BAY first, then next");
        PeatBog x = new PeatBog();
        x.track(8);
        dueBest(x, 0, 8);
        x.mill(5, 1);
        dueBest(x, 0, 6);
        x.mill(11, 1);
        dueBest(x, 0, 6);
        PeatBog y = new PeatBog();
        y.track(8);
        y.mill(11, 1);
        dueBest(y, 0, 8);
        dueBest(y, 0, 8, 8);
        PeatBog z = new PeatBog();
        z.track(8);
        z.mill(6, 3);
        z.mill(10, 3);
        dueBest(z, 25, 7);
        dueBest(z, 45, 7, 9);
    }

    private static void leastBayNext() {
        Due.of("of several the least BAY first, then next");
        PeatBog x = new PeatBog();
        x.track(3);
        x.mill(1, 2);
        // To go at once or later costs the same: the first days' bays are the least ones.
        dueBest(x, 15, 2);
        dueBest(x, 15, 2, 2);
        dueBest(x, 15, 2, 2, 2);
        PeatBog y = new PeatBog();
        y.track(3);
        y.mill(6, 2);
        dueBest(y, 10, 5);
        dueBest(y, 10, 3, 5);
        dueBest(y, 10, 3, 3, 5);
        PeatBog z = new PeatBog();
        z.track(8);
        z.mill(8, 1);
        z.mill(5, 1);
        // What lies on 8 is near from 7, too, and on the way to 6.
        dueBest(z, 10, 8);
        dueBest(z, 20 - 10, 7, 6);
        dueBest(z, 20 - 10, 7, 6, 6);
    }

    private static void whateverWet() {
        Due.of("what lies TODAY, whatever its WET, and is CLOSED or not");
        PeatBog x = new PeatBog();
        x.mill(0, 4);
        x.mill(1, 5);
        x.ridge(1);
        x.day(0, 0, 50);
        Due.probes(x, 0, 3, 900);
        Due.enact(x, "limit 0;close 0 to 15 from 0 to 364;");
        dueBest(x, 90, 0);
        x.day(10, 10, 0);
        dueBest(x, 90, 0);
        Due.enact(x, "limit 900;");
        Due.probes(x, 0, 3, 900);
        x.stack();
        Due.due("gather(0, 0)", x.gather(0, 0), 40);
        dueBest(x, 50, 0);
        Due.due("it gathers nothing itself", x.bay(1, 2), 50);
        Due.due("it moves nothing itself", x.count(2), 0);
    }
}
