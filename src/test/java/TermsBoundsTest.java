/** The bounds that the document's Terms name, each at its last value that is as told and the first that is not. */
public final class TermsBoundsTest {
    private static final int NONE = PeatBog.NONE;

    public static void main(String[] args) {
        days();
        dayOfTheYear();
        bays();
        bayRow();
        depths();
        milling();
        millingToTheDepthLeft();
        probeWet();
        probeCount();
        probesOfToday();
        nearness();
        enoughProbes();
        probesAtMostLimit();
        barsOrder();
        gathering();
        stacks();
        wants();
        readings();
        Due.finish();
    }

    private static void days() {
        Due.of("DAYS 0 to 1,000, TODAY is 0 at first");
        PeatBog x = new PeatBog();
        Due.due("count(0)", x.count(0), 0);
        Due.due("tells(-1, 0)", x.tells(-1, 0), NONE);
        Due.due("tells(0, 0)", x.tells(0, 0), 550);
        Due.due("tells(1000, 0)", x.tells(1000, 0), 550);
        Due.due("tells(1001, 0)", x.tells(1001, 0), NONE);
        Due.due("the first day", x.day(0, 0, 0), 1);
        Due.due("count(0)", x.count(0), 1);
    }

    private static void dayOfTheYear() {
        Due.of("a DAY of the year is it modulo 365.");
        PeatBog x = new PeatBog();
        Due.enact(x, "close 0 to 0 from 0 to 0;close 1 to 1 from 364 to 364;close 2 to 2 from 365 to 365;"
            + "close 3 to 3 from 270 to 270;");
        int[] days = {0, 1, 269, 270, 271, 363, 364, 365, 366, 634, 635, 636, 728, 729, 730, 731, 999, 1000};
        for (int day : days) {
            Due.due("day " + day + " is the year's first", x.tells(day, 10), day == 0 || day == 365 || day == 730 ? 1 : 0);
            Due.due("day " + day + " is the year's last", x.tells(day, 11), day == 364 || day == 729 ? 1 : 0);
            Due.due("day " + day + " is the year's 365", x.tells(day, 12), 0);
            Due.due("day " + day + " is the year's 270", x.tells(day, 13), day == 270 || day == 635 || day == 1000 ? 1 : 0);
        }
        // Of the calls that act, too: the year's second day 0 has the same bay closed.
        PeatBog y = new PeatBog();
        Due.enact(y, "close 7 to 7 from 0 to 0;");
        Due.due("mill on day 0", y.mill(7, 1), -4);
        Due.passDays(y, 364);
        y.mill(7, 1);
        Due.due("bars on day 364", y.bars(7), 3);
        y.day(0, 0, 0);
        Due.due("bars on day 365", y.bars(7), 2);
        y.day(0, 0, 0);
        Due.due("bars on day 366", y.bars(7), 3);
    }

    private static void bays() {
        Due.of("BAYS 0 to 15 in a row");
        for (int bay : new int[] {-1, 0, 15, 16}) {
            boolean is = bay == 0 || bay == 15;
            PeatBog x = new PeatBog();
            x.stack();
            Due.due("bay(" + bay + ", 0)", x.bay(bay, 0), is ? 1000 : NONE);
            Due.due("depth(" + bay + ", 900)", x.depth(bay, 900), is);
            Due.due("mill(" + bay + ", 5)", x.mill(bay, 5), is ? 0 : -2);
            Due.due("bars(" + bay + ")", x.bars(bay), bay == 0 ? 4 : bay == 15 ? 3 : 1);
            Due.due("ridge(" + bay + ")", x.ridge(bay), is);
            Due.due("probe(" + bay + ", 5)", x.probe(bay, 5), is ? 1 : NONE);
            Due.probes(x, bay, 2, 5);
            Due.due("track(" + bay + ")", x.track(bay), is ? bay : NONE);
            Due.due("gather(" + bay + ", 0)", x.gather(bay, 0), is ? 50 : NONE);
            Due.due("bay(" + bay + ", 0)", x.bay(bay, 0), is ? 895 : NONE);
            Due.due("tells(0, 10 + " + bay + ")", x.tells(0, 10 + bay), is ? 0 : NONE);
        }
    }

    private static void bayRow() {
        Due.of("BAYS 0 to 15 in a row");
        PeatBog x = new PeatBog();
        Due.ready(x, 0, 1);
        Due.ready(x, 15, 1);
        Due.due("15 isn't beside 0", x.bars(15), 3);
        Due.due("the way from 0 to 15", x.track(15), 15);
        Due.due("0 isn't beside 15", x.bars(0), 3);
        Due.due("the way from 15 to 0", x.track(0), 15);
    }

    private static void depths() {
        Due.of("each with a DEPTH (0 to 3,000; 1,000 at first)");
        PeatBog x = new PeatBog();
        for (int b = 0; b < 16; b++) {
            Due.due("bay(" + b + ", 0)", x.bay(b, 0), 1000);
        }
        Due.due("depth(4, -1)", x.depth(4, -1), false);
        Due.due("bay(4, 0)", x.bay(4, 0), 1000);
        Due.due("depth(4, 0)", x.depth(4, 0), true);
        Due.due("bay(4, 0)", x.bay(4, 0), 0);
        Due.due("depth(4, 3001)", x.depth(4, 3001), false);
        Due.due("bay(4, 0)", x.bay(4, 0), 0);
        Due.due("depth(4, 3000)", x.depth(4, 3000), true);
        Due.due("bay(4, 0)", x.bay(4, 0), 3000);
        Due.due("mill(4, 20)", x.mill(4, 20), 0);
        Due.due("bay(4, 0)", x.bay(4, 0), 2980);
    }

    private static void milling() {
        Due.of("MILLING a BAY that RESTS takes so much (1 to 20) of its DEPTH: WEIGHT 10 for each, WET 800.");
        for (int much = 0; much <= 21; much++) {
            boolean is = much >= 1 && much <= 20;
            PeatBog x = new PeatBog();
            Due.due("mill(8, " + much + ")", x.mill(8, much), is ? 0 : -2);
            Due.due("bay(8, 0)", x.bay(8, 0), is ? 1000 - much : 1000);
            Due.due("bay(8, 1)", x.bay(8, 1), is ? 1 : 0);
            Due.due("bay(8, 2)", x.bay(8, 2), is ? 10 * much : 0);
            Due.due("bay(8, 3)", x.bay(8, 3), is ? 800 : 0);
        }
    }

    private static void millingToTheDepthLeft() {
        Due.of("-5 less than THE LAW's DEPTH would be left (or below 0)");
        int[] kept = {0, 1, 980, 2980, 9999};
        for (int left : kept) {
            PeatBog x = new PeatBog();
            Due.enact(x, "depth " + left + ";");
            int deep = Math.min(3000, left + 20);
            x.depth(0, deep);
            x.depth(1, deep - 1);
            Due.due("mill 20 of " + deep + ", " + left + " kept", x.mill(0, 20), deep - 20 >= left ? 0 : -5);
            Due.due("mill 20 of " + (deep - 1) + ", " + left + " kept", x.mill(1, 20), -5);
            Due.due("mill 19 of " + (deep - 1) + ", " + left + " kept", x.mill(1, 19), deep - 20 >= left ? 0 : -5);
        }
        PeatBog y = new PeatBog();
        y.depth(0, 1);
        Due.due("mill 2 of 1, no law", y.mill(0, 2), -5);
        Due.due("mill 1 of 1, no law", y.mill(0, 1), 0);
        Due.due("bay(0, 0)", y.bay(0, 0), 0);
    }

    private static void probeWet() {
        Due.of("A PROBE (0 to 900) of a BAY on which something lies: how many of TODAY.");
        PeatBog x = new PeatBog();
        x.mill(3, 1);
        Due.due("probe(3, -1)", x.probe(3, -1), NONE);
        Due.due("probe(3, 0)", x.probe(3, 0), 1);
        Due.due("bay(3, 5)", x.bay(3, 5), 0);
        Due.due("probe(3, 901)", x.probe(3, 901), NONE);
        Due.due("bay(3, 5)", x.bay(3, 5), 0);
        Due.due("probe(3, 900)", x.probe(3, 900), 2);
        Due.due("bay(3, 5)", x.bay(3, 5), 900);
        Due.due("nothing lies", x.probe(4, 0), NONE);
    }

    private static void probeCount() {
        Due.of("PROBES are of TODAY alone, up to 8 a BAY.");
        PeatBog x = new PeatBog();
        x.mill(3, 1);
        x.mill(4, 1);
        for (int i = 1; i <= 8; i++) {
            Due.due("probe " + i, x.probe(3, 10 * i), i);
            Due.due("bay(3, 4)", x.bay(3, 4), i);
        }
        Due.due("the ninth", x.probe(3, 900), NONE);
        Due.due("bay(3, 4)", x.bay(3, 4), 8);
        Due.due("bay(3, 5)", x.bay(3, 5), 80);
        Due.due("8 are of each bay", x.probe(4, 1), 1);
    }

    private static void probesOfToday() {
        Due.of("PROBES are of TODAY alone, up to 8 a BAY.");
        PeatBog x = new PeatBog();
        x.stack();
        x.mill(0, 1);
        Due.probes(x, 0, 2, 100);
        x.day(0, 0, 0);
        Due.due("bay(0, 4)", x.bay(0, 4), 0);
        Due.due("bay(0, 5)", x.bay(0, 5), NONE);
        Due.due("the first of the new day", x.probe(0, 90), 1);
        Due.due("two of yesterday don't help", x.bars(0), 4);
        Due.probes(x, 0, 7, 100);
        Due.due("the ninth", x.probe(0, 1), NONE);
        Due.due("gather(0, 0)", x.gather(0, 0), 10);
        Due.due("at rest, the same day", x.bay(0, 4), 8);
        x.day(0, 0, 0);
        Due.due("at rest, the next day", x.bay(0, 4), 0);
        Due.due("at rest, the next day", x.bay(0, 5), NONE);
    }

    private static void nearness() {
        Due.of("the TRACK at most 1 BAY away");
        int[][] atBayBars = {{0, 0, 0}, {0, 1, 0}, {0, 2, 3}, {2, 0, 3}, {1, 0, 0}, {15, 15, 0}, {15, 14, 0},
            {15, 13, 3}, {13, 15, 3}, {14, 15, 0}, {7, 5, 3}, {7, 6, 0}, {7, 8, 0}, {7, 9, 3}, {0, 15, 3}, {15, 0, 3}};
        for (int[] row : atBayBars) {
            PeatBog x = new PeatBog();
            x.stack();
            x.track(row[0]);
            Due.ready(x, row[1], 2);
            Due.due("bars(" + row[1] + ") with the track at " + row[0], x.bars(row[1]), row[2]);
            Due.due("gather(" + row[1] + ", 0)", x.gather(row[1], 0), row[2] == 0 ? 20 : NONE);
        }
    }

    private static void enoughProbes() {
        Due.of("and at least 3 PROBES of TODAY");
        for (int many = 0; many <= 8; many++) {
            PeatBog x = new PeatBog();
            x.stack();
            x.mill(0, 2);
            Due.probes(x, 0, many, 550);
            Due.due("bars with " + many, x.bars(0), many < 3 ? 4 : 0);
            Due.due("gather with " + many, x.gather(0, 0), many < 3 ? NONE : 20);
        }
    }

    private static void probesAtMostLimit() {
        Due.of("all at most LIMIT");
        int[][] limitWetBars = {{550, 550, 0}, {550, 551, 5}, {0, 0, 0}, {0, 1, 5}, {899, 899, 0}, {899, 900, 5},
            {900, 900, 0}, {9999, 900, 0}};
        for (int[] row : limitWetBars) {
            // The wettest may be any of them, the first, the last or one between.
            for (int place = 0; place < 8; place++) {
                PeatBog x = new PeatBog();
                x.stack();
                if (row[0] != 550) {
                    Due.enact(x, "limit " + row[0] + ";");
                }
                x.mill(1, 3);
                for (int i = 0; i < 8; i++) {
                    x.probe(1, i == place ? row[1] : 0);
                }
                Due.due("probe " + row[1] + ", limit " + row[0], x.bars(1), row[2]);
                Due.due("gather(1, 0)", x.gather(1, 0), row[2] == 0 ? 30 : NONE);
            }
        }
    }

    private static void barsOrder() {
        Due.of("What bars GATHERING a BAY, the first of");
        PeatBog x = new PeatBog();
        x.mill(5, 1);
        x.mill(6, 1);
        Due.probes(x, 5, 2, 900);
        Due.probes(x, 6, 3, 900);
        Due.enact(x, "close 4 to 6 from 0 to 0;");
        Due.due("1 ahead of 2, 3 and 4", x.bars(4), 1);
        Due.due("2 ahead of 3 and 4", x.bars(5), 2);
        Due.due("2 ahead of 3 and 5", x.bars(6), 2);
        Due.enact(x, "");
        Due.due("1 ahead of 3 and 4", x.bars(4), 1);
        Due.due("3 ahead of 4", x.bars(5), 3);
        Due.due("3 ahead of 5", x.bars(6), 3);
        x.track(5);
        Due.due("1 ahead of 4", x.bars(4), 1);
        Due.due("4 ahead of 5", x.bars(5), 4);
        Due.due("5", x.bars(6), 5);
        Due.enact(x, "limit 900;");
        Due.due("4 with 2 probes", x.bars(5), 4);
        Due.due("0", x.bars(6), 0);
    }

    private static void gathering() {
        Due.of("its WEIGHT comes to a STACK; it RESTS then");
        for (int ridged = 0; ridged < 2; ridged++) {
            PeatBog x = new PeatBog();
            x.stack();
            Due.ready(x, 0, 9);
            if (ridged == 1) {
                x.ridge(0);
            }
            Due.due("gather(0, 0)", x.gather(0, 0), 90);
            Due.due("stackOf(0, 0)", x.stackOf(0, 0), 90);
            Due.due("bay(0, 1)", x.bay(0, 1), 0);
            Due.due("bay(0, 2) is 0 of one that rests", x.bay(0, 2), 0);
            Due.due("bay(0, 3) is 0 of one that rests", x.bay(0, 3), 0);
            Due.due("bay(0, 6)", x.bay(0, 6), 90);
            Due.due("once more", x.gather(0, 0), NONE);
            Due.due("its depth can be told", x.depth(0, 700), true);
            Due.due("it can be milled", x.mill(0, 1), 0);
            Due.due("bay(0, 3)", x.bay(0, 3), 800);
        }
    }

    private static void stacks() {
        Due.of("STACKS, up to 10: begun as they are told, HEAT 10");
        PeatBog x = new PeatBog();
        for (int s = 0; s < 10; s++) {
            Due.due("read(" + s + ", 1) before", x.read(s, 1), false);
            Due.due("stack()", x.stack(), s);
            Due.due("stackOf(" + s + ", 2)", x.stackOf(s, 2), 10);
            Due.due("read(" + s + ", 1)", x.read(s, 1), true);
            Due.due("count(10)", x.count(10), s + 1);
        }
        Due.due("the eleventh", x.stack(), NONE);
        Due.due("count(10)", x.count(10), 10);
        Due.ready(x, 0, 1);
        Due.due("gather(0, 10)", x.gather(0, 10), NONE);
        Due.due("gather(0, 9)", x.gather(0, 9), 10);
    }

    private static void wants() {
        Due.of("its WANT (0 to 1,000; 0 at first)");
        PeatBog x = new PeatBog();
        Due.due("count(3)", x.count(3), 0);
        Due.due("want(-1)", x.want(-1), false);
        Due.due("count(3)", x.count(3), 0);
        Due.due("want(1001)", x.want(1001), false);
        Due.due("count(3)", x.count(3), 0);
        Due.due("want(1000)", x.want(1000), true);
        Due.due("count(3)", x.count(3), 1000);
        Due.due("want(0)", x.want(0), true);
        Due.due("count(3)", x.count(3), 0);
    }

    private static void readings() {
        Due.of("HEAT of a STACK is READ (0 to 100): true; false: none such.");
        PeatBog x = new PeatBog();
        x.stack();
        Due.due("stackOf(0, 3)", x.stackOf(0, 3), NONE);
        Due.due("read(0, -1)", x.read(0, -1), false);
        Due.due("read(0, 101)", x.read(0, 101), false);
        Due.due("stackOf(0, 3)", x.stackOf(0, 3), NONE);
        Due.due("read(0, 100)", x.read(0, 100), true);
        Due.due("stackOf(0, 3)", x.stackOf(0, 3), 100);
        Due.due("read(0, 0)", x.read(0, 0), true);
        Due.due("stackOf(0, 3)", x.stackOf(0, 3), 0);
        Due.due("read(1, 0)", x.read(1, 0), false);
    }
}
