/** The bounds of a day that goes by (the document's part 2), one sentence at a time. */
public final class DayBoundsTest {
    private static final int NONE = PeatBog.NONE;
    private static final int SOAKING = 30;

    public static void main(String[] args) {
        weatherRanges();
        dried();
        driedRidged();
        neverBelowNothing();
        wetted();
        wettedRidged();
        wettestAfterDrying();
        bayAtRest();
        heatOfWeight();
        heatOfWet();
        heatAndRain();
        coolest();
        hottest();
        ninetyNine();
        burnsFromTheNextDay();
        ashAtLeastOne();
        emptyStacks();
        taking();
        takingInOrder();
        storeFirst();
        burningIsNotTaken();
        everySeventh();
        lawOfTheDay();
        firstThatHolds();
        turning();
        sending();
        lawPasses();
        neverRead();
        weeks();
        tons();
        meanWet();
        Due.finish();
    }

    private static void weatherRanges() {
        Due.of("A DAY goes by with sun 0 to 10, wind 0 to 10, rain 0 to 50.");
        int[][] days = {{-1, 0, 0}, {11, 0, 0}, {0, -1, 0}, {0, 11, 0}, {0, 0, -1}, {0, 0, 51},
            {0, 0, 0}, {10, 0, 0}, {0, 10, 0}, {0, 0, 50}, {10, 10, 50}};
        for (int i = 0; i < days.length; i++) {
            PeatBog x = new PeatBog();
            int[] d = days[i];
            Due.due("day(" + d[0] + ", " + d[1] + ", " + d[2] + ")", x.day(d[0], d[1], d[2]), i < 6 ? NONE : 1);
            Due.due("count(0)", x.count(0), i < 6 ? 0 : 1);
        }
    }

    private static int wetAfter(boolean ridged, int[][] days) {
        PeatBog x = new PeatBog();
        x.mill(0, 2);
        if (ridged) {
            x.ridge(0);
        }
        for (int[] d : days) {
            x.day(d[0], d[1], d[2]);
        }
        Due.due("its weight stays", x.bay(0, 2), 20);
        Due.due("how it is stays", x.bay(0, 1), ridged ? 2 : 1);
        return x.bay(0, 3);
    }

    private static void dried() {
        Due.of("DRY 12 times sun and 6 times wind");
        Due.due("no weather", wetAfter(false, new int[][] {{0, 0, 0}}), 800);
        Due.due("sun 1", wetAfter(false, new int[][] {{1, 0, 0}}), 788);
        Due.due("wind 1", wetAfter(false, new int[][] {{0, 1, 0}}), 794);
        Due.due("sun 10", wetAfter(false, new int[][] {{10, 0, 0}}), 680);
        Due.due("wind 10", wetAfter(false, new int[][] {{0, 10, 0}}), 740);
        Due.due("both 10", wetAfter(false, new int[][] {{10, 10, 0}}), 620);
    }

    private static void driedRidged() {
        Due.of("by 2 if RIDGED, is taken from WET");
        Due.due("sun 1", wetAfter(true, new int[][] {{1, 0, 0}}), 794);
        Due.due("wind 1", wetAfter(true, new int[][] {{0, 1, 0}}), 797);
        Due.due("sun 10", wetAfter(true, new int[][] {{10, 0, 0}}), 740);
        Due.due("wind 10", wetAfter(true, new int[][] {{0, 10, 0}}), 770);
        Due.due("both 10", wetAfter(true, new int[][] {{10, 10, 0}}), 710);
    }

    private static void neverBelowNothing() {
        Due.of("is taken from WET (0 at least)");
        // Rain of 1 makes it 810, four days of 180 leave 90.
        int[][] to90 = {{0, 0, 1}, {10, 10, 0}, {10, 10, 0}, {10, 10, 0}, {10, 10, 0}, {0, 0, 0}};
        int[][] sunWindRainWet = {{0, 0, 0, 90}, {7, 0, 0, 6}, {5, 5, 0, 0}, {8, 0, 0, 0}, {10, 10, 0, 0},
            {7, 0, 1, 16}, {5, 5, 1, 10}, {8, 0, 1, 10}, {10, 10, 1, 10}};
        for (int[] d : sunWindRainWet) {
            to90[5] = new int[] {d[0], d[1], d[2]};
            Due.due("90, sun " + d[0] + " wind " + d[1] + " rain " + d[2], wetAfter(false, to90), d[3]);
        }
        int[][] ridged = new int[12][];
        java.util.Arrays.fill(ridged, new int[] {10, 10, 0});
        Due.due("ridged", wetAfter(true, ridged), 0);
        ridged[11] = new int[] {10, 10, 1};
        Due.due("ridged, then rain", wetAfter(true, ridged), 2);
    }

    private static void wetted() {
        Due.of("rain times 10, by 4, cut, if RIDGED, is added (900 at most)");
        int[] rain = {0, 1, 9, 10, 11, 50};
        int[] wet = {800, 810, 890, 900, 900, 900};
        for (int i = 0; i < rain.length; i++) {
            Due.due("rain " + rain[i], wetAfter(false, new int[][] {{0, 0, rain[i]}}), wet[i]);
        }
    }

    private static void wettedRidged() {
        Due.of("rain times 10, by 4, cut, if RIDGED, is added (900 at most)");
        int[] rain = {0, 1, 2, 3, 4, 39, 40, 41, 50};
        int[] wet = {800, 802, 805, 807, 810, 897, 900, 900, 900};
        for (int i = 0; i < rain.length; i++) {
            Due.due("ridged, rain " + rain[i], wetAfter(true, new int[][] {{0, 0, rain[i]}}), wet[i]);
        }
        // The cut is made each day: twice 2 of twice 2.5.
        Due.due("rain 1 twice", wetAfter(true, new int[][] {{0, 0, 1}, {0, 0, 1}}), 804);
    }

    private static void wettestAfterDrying() {
        Due.of("is taken from WET (0 at least); rain times 10, by 4, cut, if RIDGED, is added (900 at most)");
        Due.due("680 and 500", wetAfter(false, new int[][] {{10, 0, 50}}), 900);
        Due.due("680 and 210", wetAfter(false, new int[][] {{10, 0, 21}}), 890);
        Due.due("680 and 220", wetAfter(false, new int[][] {{10, 0, 22}}), 900);
        Due.due("900, 720 and 180", wetAfter(false, new int[][] {{0, 0, 50}, {10, 10, 18}}), 900);
        Due.due("900, 720 and 170", wetAfter(false, new int[][] {{0, 0, 50}, {10, 10, 17}}), 890);
        Due.due("ridged, 710 and 125", wetAfter(true, new int[][] {{10, 10, 50}}), 835);
    }

    private static void bayAtRest() {
        Due.of("(a) Each BAY that isn't at rest");
        PeatBog x = new PeatBog();
        x.day(0, 0, 50);
        Due.due("bay(0, 3)", x.bay(0, 3), 0);
        Due.due("bay(0, 0)", x.bay(0, 0), 1000);
        x.mill(0, 1);
        Due.due("milled after the rain", x.bay(0, 3), 800);
        x.stack();
        Due.probes(x, 0, 3, 1);
        x.gather(0, 0);
        x.day(0, 0, 50);
        Due.due("gathered before the rain", x.bay(0, 3), 0);
    }

    /** A stack of so much peat with a wet of 500 (two dry days) or more, on day 2; it hasn't heated yet. */
    private static PeatBog withStack(int muchOfTen, boolean wet) {
        PeatBog x = new PeatBog();
        x.stack();
        int bay = 0;
        for (int left = muchOfTen; left > 0; left -= 20) {
            x.mill(bay, Math.min(20, left));
            bay++;
        }
        x.day(wet ? 0 : 10, wet ? 0 : 10, 0);
        x.day(wet ? 0 : 10, 0, 0);
        for (int b = 0; b < bay; b++) {
            x.track(b);
            Due.probes(x, b, 3, 1);
            x.gather(b, 0);
        }
        Due.due("the stack's weight", x.stackOf(0, 0), 10 * muchOfTen);
        Due.due("the stack's wet", x.stackOf(0, 1), wet ? 800 : 500);
        Due.due("the stack's heat", x.stackOf(0, 2), 10);
        return x;
    }

    private static void heatOfWeight() {
        Due.of("goes up by 1 and WEIGHT by 500 (cut)");
        int[] weights = {1, 49, 50, 51, 99, 100, 149, 150};
        int[] heats = {11, 11, 12, 12, 12, 13, 13, 14};
        for (int i = 0; i < weights.length; i++) {
            PeatBog x = withStack(weights[i], false);
            x.day(0, 0, 0);
            Due.due("heat of " + 10 * weights[i], x.stackOf(0, 2), heats[i]);
        }
        // One less than 500 is left by a want of 1.
        PeatBog y = withStack(50, false);
        y.want(1);
        y.day(0, 0, 0);
        Due.due("heat of 500", y.stackOf(0, 2), 12);
        y.day(0, 0, 0);
        Due.due("heat of 499", y.stackOf(0, 2), 13);
    }

    private static void heatOfWet() {
        Due.of("2 more if its WET is above 500");
        PeatBog dry = withStack(4, false);
        dry.day(0, 0, 0);
        Due.due("wet 500", dry.stackOf(0, 2), 11);
        int[][] wetHeat = {{501, 13}, {500, 11}};
        for (int[] row : wetHeat) {
            PeatBog x = new PeatBog();
            x.stack();
            x.mill(0, 1);
            x.ridge(0);
            x.day(10, 10, 0);
            x.day(10, 10, 0);
            x.day(10, 10, 0);
            // It is 530; 60 by 2 is taken, and 18 by 2 is less than the 40 by 4 that is added.
            x.day(5, 0, 0);
            Due.due("bay(0, 3)", x.bay(0, 3), 500);
            if (row[0] == 501) {
                x.day(0, 3, 4);
                Due.due("bay(0, 3)", x.bay(0, 3), 501);
            }
            Due.probes(x, 0, 3, 1);
            x.gather(0, 0);
            Due.due("stackOf(0, 1)", x.stackOf(0, 1), row[0]);
            x.day(0, 0, 0);
            Due.due("wet " + row[0], x.stackOf(0, 2), row[1]);
        }
    }

    private static void heatAndRain() {
        Due.of("down by 3 for rain above 20");
        int[] rain = {0, 19, 20, 21, 50};
        int[] heats = {19, 19, 19, 16, 16};
        for (int i = 0; i < rain.length; i++) {
            PeatBog x = withStack(1, true);
            x.day(0, 0, 0);
            x.day(0, 0, 0);
            x.day(0, 0, rain[i]);
            Due.due("rain " + rain[i], x.stackOf(0, 2), heats[i]);
        }
    }

    private static void coolest() {
        Due.of("10 at least, 100 at most");
        // A dry stack has 10 and the days; rain takes 2 of it.
        int[] dry = {0, 1, 2, 3};
        int[] heats = {10, 10, 10, 11};
        for (int i = 0; i < dry.length; i++) {
            PeatBog x = withStack(1, false);
            Due.passDays(x, dry[i]);
            x.day(0, 0, 50);
            Due.due((10 + dry[i]) + " and rain", x.stackOf(0, 2), heats[i]);
        }
        PeatBog y = withStack(1, false);
        for (int i = 0; i < 5; i++) {
            y.day(0, 0, 50);
            Due.due("10 and rain on rain", y.stackOf(0, 2), 10);
        }
        y.day(0, 0, 0);
        Due.due("up from 10", y.stackOf(0, 2), 11);
    }

    private static void hottest() {
        Due.of("10 at least, 100 at most. With 100 it BURNS");
        // Days of 500 (by 4) first, then of less (by 3): how many of these leave the heat below 100.
        int[] heavyDays = {0, 1, 2};
        int[] lightDays = {29, 28, 27};
        int[] before = {97, 98, 99};
        for (int i = 0; i < heavyDays.length; i++) {
            PeatBog x = withStack(heavyDays[i] == 0 ? 40 : 50, true);
            for (int d = 1; d <= heavyDays[i]; d++) {
                x.want(d == heavyDays[i] ? 100 : 0);
                x.day(0, 0, 0);
            }
            x.want(0);
            Due.passDays(x, lightDays[i]);
            Due.due("heat", x.stackOf(0, 2), before[i]);
            Due.due("burns with " + before[i], x.stackOf(0, 4), 0);
            Due.due("from no day", x.stackOf(0, 6), NONE);
            int today = x.count(0);
            x.day(0, 0, 0);
            Due.due("heat after " + before[i], x.stackOf(0, 2), 100);
            Due.due("burns", x.stackOf(0, 4), 1);
            Due.due("from the day, as it began", x.stackOf(0, 6), today);
            Due.due("nothing is ash yet", x.stackOf(0, 0), 400);
            Due.due("count(8)", x.count(8), 0);
        }
    }

    private static void ninetyNine() {
        Due.of("10 at least, 100 at most. With 100 it BURNS");
        PeatBog x = withStack(50, true);
        x.day(0, 0, 0);
        x.want(100);
        x.day(0, 0, 0);
        x.want(0);
        Due.passDays(x, 27);
        Due.due("heat", x.stackOf(0, 2), 99);
        x.day(0, 0, SOAKING);
        Due.due("up by 3 and down by 3", x.stackOf(0, 2), 99);
        Due.due("it doesn't burn", x.stackOf(0, 4), 0);
        Due.due("it takes more", takesMore(x), true);
        x.day(0, 0, 20);
        Due.due("it burns", x.stackOf(0, 4), 1);
        Due.due("it takes no more", takesMore(x), false);
    }

    private static boolean takesMore(PeatBog x) {
        x.track(15);
        x.mill(15, 1);
        Due.probes(x, 15, 3, 1);
        return x.gather(15, 0) != NONE;
    }

    private static PeatBog burning(int muchOfTen) {
        PeatBog x = withStack(muchOfTen, true);
        Due.passDays(x, 30);
        Due.due("burns", x.stackOf(0, 4), 1);
        Due.due("the whole of it is there", x.stackOf(0, 0), 10 * muchOfTen);
        Due.due("from the day, as it began", x.stackOf(0, 6), 31);
        return x;
    }

    private static void burnsFromTheNextDay() {
        Due.of("a tenth of its WEIGHT (cut, 1 at least) is ash each DAY from the next one on, till nothing is left.");
        PeatBog x = burning(20);
        int[] left = {180, 162, 146, 132, 119, 108, 98, 89};
        for (int weight : left) {
            x.day(0, 0, SOAKING);
            Due.due("stackOf(0, 0)", x.stackOf(0, 0), weight);
            Due.due("count(8)", x.count(8), 200 - weight);
            Due.due("rain doesn't cool it", x.stackOf(0, 2), 100);
        }
    }

    private static void ashAtLeastOne() {
        Due.of("a tenth of its WEIGHT (cut, 1 at least) is ash each DAY from the next one on, till nothing is left.");
        PeatBog x = burning(3);
        int[] left = {27, 25, 23, 21, 19, 18, 17, 16, 15, 14, 13, 12, 11, 10, 9, 8, 7, 6, 5, 4, 3, 2, 1, 0, 0, 0};
        for (int weight : left) {
            x.day(0, 0, 0);
            Due.due("stackOf(0, 0)", x.stackOf(0, 0), weight);
        }
        Due.due("no more ash than there was", x.count(8), 30);
        Due.due("the day from which it burns", x.stackOf(0, 6), 31);
    }

    private static void emptyStacks() {
        Due.of("(b) Each STACK with WEIGHT, by numbers");
        PeatBog x = withStack(1, true);
        x.stack();
        x.want(9);
        x.day(0, 0, 0);
        Due.due("of 10", x.stackOf(0, 2), 13);
        Due.due("of nothing", x.stackOf(1, 2), 10);
        x.want(1);
        x.day(0, 0, 0);
        Due.due("of 1", x.stackOf(0, 2), 16);
        x.day(0, 0, 0);
        Due.due("of nothing any more", x.stackOf(0, 2), 16);
        x.day(0, 0, SOAKING);
        Due.due("of nothing, in rain", x.stackOf(0, 2), 16);
    }

    private static void taking() {
        Due.of("(c) The power house takes its WANT");
        // 30 are there: what is taken, what lacks and what is left.
        int[][] wantTakenLackLeft = {{0, 0, 0, 30}, {1, 1, 0, 29}, {29, 29, 0, 1}, {30, 30, 0, 0}, {31, 30, 1, 0},
            {1000, 30, 970, 0}};
        for (int[] row : wantTakenLackLeft) {
            PeatBog x = withStack(3, true);
            x.want(row[0]);
            x.day(0, 0, 0);
            Due.due("taken of " + row[0], x.count(5), row[1]);
            Due.due("lacks of " + row[0], x.count(7), row[2]);
            Due.due("lacked ever", x.count(6), row[2]);
            Due.due("left", x.stackOf(0, 0), row[3]);
            x.want(0);
            x.day(0, 0, 0);
            Due.due("lacks on the latest day", x.count(7), 0);
            Due.due("lacked ever", x.count(6), row[2]);
        }
    }

    private static void takingInOrder() {
        Due.of("from STACKS that don't BURN, those that were begun first");
        // 20, 30 and 40 are there.
        int[][] wantLeft = {{19, 1, 30, 40}, {20, 0, 30, 40}, {21, 0, 29, 40}, {50, 0, 0, 40}, {51, 0, 0, 39},
            {90, 0, 0, 0}};
        for (int[] row : wantLeft) {
            PeatBog x = new PeatBog();
            for (int s = 0; s < 3; s++) {
                x.stack();
            }
            // The last stack gets its peat first: what counts is when it was begun.
            Due.bring(x, 0, 4, 2);
            Due.bring(x, 1, 3, 1);
            Due.bring(x, 2, 2, 0);
            x.want(row[0]);
            x.day(0, 0, 0);
            for (int s = 0; s < 3; s++) {
                Due.due("left of stack " + s + ", " + row[0] + " wanted", x.stackOf(s, 0), row[1 + s]);
            }
            Due.due("taken", x.count(5), row[0]);
        }
    }

    private static void storeFirst() {
        Due.of("The power house's store is taken ahead of STACKS.");
        int[][] wantStoreStack = {{49, 1, 30}, {50, 0, 30}, {51, 0, 29}, {80, 0, 0}, {81, 0, 0}};
        for (int[] row : wantStoreStack) {
            PeatBog x = new PeatBog();
            x.stack();
            x.stack();
            Due.bring(x, 0, 3, 0);
            Due.bring(x, 1, 5, 1);
            Due.enact(x, "if tons=50 then send;");
            Due.passDays(x, 7);
            Due.due("the store", x.count(4), 50);
            Due.due("nothing is taken yet", x.count(5), 0);
            x.want(row[0]);
            x.day(0, 0, 0);
            Due.due("store after " + row[0], x.count(4), row[1]);
            Due.due("stack after " + row[0], x.stackOf(0, 0), row[2]);
            Due.due("lacks of " + row[0], x.count(7), row[0] > 80 ? row[0] - 80 : 0);
            Due.due("taken of " + row[0], x.count(5), Math.min(80, row[0]));
        }
    }

    private static void burningIsNotTaken() {
        Due.of("from STACKS that don't BURN, those that were begun first; what lacks is told.");
        PeatBog x = burning(10);
        x.stack();
        Due.bring(x, 9, 2, 1);
        x.want(25);
        Due.due("lasts()", x.lasts(), 0);
        x.day(0, 0, 0);
        Due.due("the ash alone", x.stackOf(0, 0), 90);
        Due.due("the other", x.stackOf(1, 0), 0);
        Due.due("what lacks", x.count(7), 5);
        // On the day itself on which its heat comes to 100 it isn't taken either.
        PeatBog y = withStack(10, true);
        Due.passDays(y, 29);
        y.want(7);
        y.day(0, 0, 0);
        Due.due("what lacks", y.count(7), 7);
        Due.due("stackOf(0, 0)", y.stackOf(0, 0), 100);
    }

    private static void everySeventh() {
        Due.of("(d) Every seventh DAY (as the DAY then is a multiple of 7)");
        PeatBog x = new PeatBog();
        x.stack();
        Due.bring(x, 0, 1, 0);
        Due.enact(x, "if tons>0 then turn;");
        for (int day = 1; day <= 29; day++) {
            Due.due("day", x.day(0, 0, SOAKING), day);
            Due.due("turned by day " + day, x.stackOf(0, 7), day / 7);
        }
    }

    private static void lawOfTheDay() {
        Due.of("THE LAW in force acts on each STACK");
        PeatBog x = new PeatBog();
        x.stack();
        Due.bring(x, 0, 1, 0);
        Due.passDays(x, 6);
        Due.enact(x, "if tons>0 then turn;");
        x.day(0, 0, 0);
        Due.due("taken on the sixth, it acts on the seventh", x.stackOf(0, 7), 1);
        Due.enact(x, "if tons>0 then send;");
        Due.passDays(x, 6);
        Due.due("taken on the seventh, it waits", x.stackOf(0, 8), 0);
        Due.enact(x, "");
        x.day(0, 0, 0);
        Due.due("the newest alone acts", x.stackOf(0, 8) + x.stackOf(0, 7), 1);
        PeatBog y = new PeatBog();
        y.stack();
        Due.bring(y, 0, 1, 0);
        Due.passDays(y, 7);
        Due.due("no law", y.stackOf(0, 7) + y.stackOf(0, 8), 0);
    }

    private static void firstThatHolds() {
        Due.of("the first \"if\" all whose TESTS hold");
        String[] laws = {"if tons=10 then keep;if tons=10 then send;",
            "if tons=10 and heat=5 then keep;if tons=10 then turn;",
            "if tons=11 then send;if heat=4 and tons=10 and weeks=9 then send;if heat=4 and tons=10 and weeks=1 then turn;",
            "if heat=5 then send;", "if tons=10 and heat=4 and weeks=2 then send;",
            "if heat=4 then send;if tons=10 then turn;"};
        int[] turned = {0, 1, 1, 0, 0, 0};
        int[] sent = {0, 0, 0, 0, 0, 1};
        for (int i = 0; i < laws.length; i++) {
            PeatBog x = new PeatBog();
            x.stack();
            Due.bring(x, 0, 1, 0);
            x.read(0, 4);
            Due.enact(x, laws[i]);
            Due.passDays(x, 7);
            Due.due("turned by " + laws[i], x.stackOf(0, 7), turned[i]);
            Due.due("sent by " + laws[i], x.stackOf(0, 8), sent[i]);
            Due.due("left by " + laws[i], x.stackOf(0, 0), 10 - 10 * sent[i]);
        }
    }

    private static void turning() {
        Due.of("\"turn\": HEAT by 2, cut (10 at least)");
        // A dry stack of one load has 10 and the days since: the law acts on day 42.
        for (int days = 1; days <= 40; days++) {
            PeatBog x = new PeatBog();
            x.stack();
            x.mill(0, 1);
            x.day(10, 10, 0);
            x.day(10, 0, 0);
            Due.passDays(x, 40 - days);
            Due.probes(x, 0, 3, 1);
            Due.due("gather(0, 0)", x.gather(0, 0), 10);
            Due.passDays(x, days - 1);
            Due.enact(x, "if tons>0 then turn;");
            x.day(0, 0, 0);
            int heat = 10 + days;
            Due.due("turned of " + heat, x.stackOf(0, 2), heat < 20 ? 10 : heat / 2);
            Due.due("how often", x.stackOf(0, 7), 1);
            Due.due("the weight stays", x.stackOf(0, 0), 10);
        }
    }

    private static void sending() {
        Due.of("\"send\": all its WEIGHT goes to the power house's store");
        PeatBog x = withStack(12, true);
        x.want(3);
        Due.enact(x, "if tons>0 then send;");
        Due.passDays(x, 5);
        Due.due("what the house had not taken", x.count(4), 105);
        Due.due("what it took", x.count(5), 15);
        Due.due("stackOf(0, 0)", x.stackOf(0, 0), 0);
        Due.due("stackOf(0, 8)", x.stackOf(0, 8), 1);
        Due.due("count(9)", x.count(9), 0);
        Due.due("it takes no more", takesMore(x), false);
        Due.due("lasts()", x.lasts(), 35);
        // A second one comes on top of the store.
        x.stack();
        Due.bring(x, 9, 4, 1);
        Due.passDays(x, 7);
        Due.due("both", x.count(4), 105 - 21 + 40);
    }

    private static void lawPasses() {
        Due.of("acts on each STACK with WEIGHT that doesn't BURN, by numbers");
        PeatBog x = burning(2);
        x.stack();
        x.stack();
        x.stack();
        Due.bring(x, 9, 1, 2);
        Due.bring(x, 10, 1, 3);
        Due.due("count(0)", x.count(0), 32);
        Due.enact(x, "if tons>0 then turn;");
        Due.passDays(x, 3);
        Due.due("one that burns", x.stackOf(0, 7), 0);
        Due.due("one without weight", x.stackOf(1, 7), 0);
        Due.due("one of 10", x.stackOf(2, 7), 1);
        Due.due("another of 10", x.stackOf(3, 7), 1);
        Due.enact(x, "if weeks<9999 then send;");
        Due.passDays(x, 7);
        Due.due("one that burns", x.stackOf(0, 8), 0);
        Due.due("one without weight", x.stackOf(1, 8), 0);
        Due.due("one of 10", x.stackOf(2, 8), 1);
        Due.due("another of 10", x.stackOf(3, 8), 1);
        Due.due("count(4)", x.count(4), 20);
        // Sent ones have no weight any more: no turn is counted.
        Due.enact(x, "if weeks<9999 then turn;");
        Due.passDays(x, 7);
        Due.due("one that was sent", x.stackOf(2, 7), 1);
    }

    private static boolean acts(String tests, int begunOn, int much, int read) {
        PeatBog x = new PeatBog();
        Due.passDays(x, begunOn);
        x.stack();
        Due.bring(x, 0, much, 0);
        if (read != NONE) {
            x.read(0, 99 - read);
            x.read(0, read);
        }
        Due.passDays(x, 13 - begunOn);
        Due.enact(x, "if " + tests + " then send;");
        x.day(0, 0, 0);
        return x.stackOf(0, 8) == 1;
    }

    private static void neverRead() {
        Due.of("heat is what was READ last of it (never: no TEST of it holds)");
        String[] any = {"heat<9999", "heat>0", "heat=0", "heat=1", "heat<1", "heat=10", "heat>9 and heat<11"};
        for (String tests : any) {
            Due.due("never read: " + tests, acts(tests, 1, 1, NONE), false);
        }
        Due.due("tons with a heat never read", acts("tons=10 and heat<9999", 1, 1, NONE), false);
        Due.due("read 0: heat=0", acts("heat=0", 1, 1, 0), true);
        Due.due("read 0: heat<1", acts("heat<1", 1, 1, 0), true);
        Due.due("read 0: heat>0", acts("heat>0", 1, 1, 0), false);
        Due.due("read 50: heat<50", acts("heat<50", 1, 1, 50), false);
        Due.due("read 50: heat<51", acts("heat<51", 1, 1, 50), true);
        Due.due("read 50: heat>50", acts("heat>50", 1, 1, 50), false);
        Due.due("read 50: heat>49", acts("heat>49", 1, 1, 50), true);
        Due.due("read 50: heat=50", acts("heat=50", 1, 1, 50), true);
        Due.due("read 50: heat=49", acts("heat=49", 1, 1, 50), false);
        Due.due("read 100: heat=100", acts("heat=100", 1, 1, 100), true);
        Due.due("read 100: heat<101", acts("heat<101", 1, 1, 100), true);
    }

    private static void weeks() {
        Due.of("weeks the DAYS since it was begun by 7, cut");
        // The law acts on day 14.
        int[] begun = {0, 1, 6, 7, 8, 13};
        int[] weeks = {2, 1, 1, 1, 0, 0};
        for (int i = 0; i < begun.length; i++) {
            for (int bound = 0; bound <= 3; bound++) {
                String text = ", begun on " + begun[i];
                Due.due("weeks=" + bound + text, acts("weeks=" + bound, begun[i], 1, NONE), weeks[i] == bound);
                Due.due("weeks<" + bound + text, acts("weeks<" + bound, begun[i], 1, NONE), weeks[i] < bound);
                Due.due("weeks>" + bound + text, acts("weeks>" + bound, begun[i], 1, NONE), weeks[i] > bound);
            }
        }
    }

    private static void tons() {
        Due.of("tons its WEIGHT");
        for (int bound = 49; bound <= 51; bound++) {
            Due.due("tons=" + bound, acts("tons=" + bound, 1, 5, NONE), bound == 50);
            Due.due("tons<" + bound, acts("tons<" + bound, 1, 5, NONE), bound == 51);
            Due.due("tons>" + bound, acts("tons>" + bound, 1, 5, NONE), bound == 49);
        }
    }

    private static void meanWet() {
        Due.of("WET of one is the mean by WEIGHT of what came (cut, as each comes)");
        PeatBog x = new PeatBog();
        x.stack();
        Due.due("of nothing", x.stackOf(0, 1), 0);
        x.mill(0, 1);
        x.mill(1, 2);
        x.day(0, 1, 0);
        Due.probes(x, 0, 3, 1);
        x.gather(0, 0);
        Due.due("the first as it is", x.stackOf(0, 1), 794);
        x.mill(0, 1);
        Due.probes(x, 0, 3, 1);
        x.gather(0, 0);
        Due.due("794 and 800", x.stackOf(0, 1), 797);
        x.mill(0, 1);
        Due.probes(x, 0, 3, 1);
        x.gather(0, 0);
        Due.due("20 of 797 and 10 of 800", x.stackOf(0, 1), 798);
        x.mill(0, 3);
        Due.probes(x, 0, 3, 1);
        x.gather(0, 0);
        Due.due("30 of 798 and 30 of 800", x.stackOf(0, 1), 799);
        Due.probes(x, 1, 3, 1);
        x.gather(1, 0);
        Due.due("60 of 799 and 20 of 794", x.stackOf(0, 1), 797);
        // Cut as each comes: the mean of all at once would be 803 in the end.
        PeatBog y = new PeatBog();
        y.stack();
        y.mill(0, 2);
        y.mill(1, 1);
        y.day(0, 0, 1);
        Due.probes(y, 0, 3, 1);
        y.gather(0, 0);
        Due.due("810", y.stackOf(0, 1), 810);
        y.mill(0, 1);
        Due.probes(y, 0, 3, 1);
        y.gather(0, 0);
        Due.due("20 of 810 and 10 of 800: 806.7", y.stackOf(0, 1), 806);
        Due.probes(y, 1, 3, 1);
        y.gather(1, 0);
        Due.due("30 of 806 and 10 of 810", y.stackOf(0, 1), 807);
        y.mill(0, 1);
        Due.probes(y, 0, 3, 1);
        y.gather(0, 0);
        Due.due("40 of 807 and 10 of 800: 805.6", y.stackOf(0, 1), 805);
        y.mill(0, 5);
        Due.probes(y, 0, 3, 1);
        y.gather(0, 0);
        Due.due("50 of 805 and 50 of 800: 802.5", y.stackOf(0, 1), 802);
    }
}
