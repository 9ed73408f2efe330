/** Promise 12: day. */
public final class DayTest {
    public static void main(String[] args) {
        wrongDays();
        weather();
        heating();
        burning();
        burningAndTaking();
        taking();
        lawActs();
        signs();
        lawActsOnTheSeventh();
        lastDay();
        Due.finish();
    }

    private static void wrongDays() {
        PeatBog x = new PeatBog();
        x.mill(0, 1);
        x.want(5);
        int[][] wrong = {{-1, 0, 0}, {11, 0, 0}, {0, -1, 0}, {0, 11, 0}, {0, 0, -1}, {0, 0, 51},
            {Integer.MIN_VALUE, 0, 0}, {0, Integer.MAX_VALUE, 0}, {0, 0, Integer.MAX_VALUE}};
        for (int[] w : wrong) {
            Due.due("day(" + w[0] + ", " + w[1] + ", " + w[2] + ")", x.day(w[0], w[1], w[2]), PeatBog.NONE);
        }
        Due.due("count(0) untouched", x.count(0), 0);
        Due.due("bay(0, 3) untouched", x.bay(0, 3), 800);
        Due.due("count(6) untouched", x.count(6), 0);
        Due.due("day(10, 10, 50)", x.day(10, 10, 50), 1);
        Due.due("day(0, 0, 0)", x.day(0, 0, 0), 2);
    }

    private static void weather() {
        PeatBog x = new PeatBog();
        x.mill(0, 1);
        x.mill(1, 1);
        x.ridge(1);
        x.day(3, 4, 0);
        Due.due("dried, milled", x.bay(0, 3), 740);
        Due.due("dried, ridged", x.bay(1, 3), 770);
        x.day(0, 0, 3);
        Due.due("wetted, milled", x.bay(0, 3), 770);
        Due.due("wetted, ridged, cut", x.bay(1, 3), 777);
        x.day(0, 1, 50);
        Due.due("900 at most, milled", x.bay(0, 3), 900);
        Due.due("wetted, ridged", x.bay(1, 3), 899);
        for (int i = 0; i < 4; i++) {
            x.day(10, 10, 0);
        }
        Due.due("dried", x.bay(0, 3), 180);
        x.day(10, 10, 1);
        Due.due("dried before it is wetted", x.bay(0, 3), 10);
        x.day(10, 0, 2);
        Due.due("0 at least, then the rain", x.bay(0, 3), 20);
        Due.due("a bay at rest", x.bay(2, 3), 0);
        Due.due("bay(0, 2) keeps its weight", x.bay(0, 2), 10);
        x.day(0, 0, 50);
        x.day(0, 0, 38);
        x.day(10, 10, 50);
        Due.due("dried, then 900 at most", x.bay(0, 3), 900);
    }

    private static void heating() {
        PeatBog x = new PeatBog();
        x.stack();
        x.stack();
        x.mill(0, 20);
        x.mill(1, 20);
        x.day(10, 10, 0);
        x.day(10, 0, 0);
        for (int i = 0; i < 3; i++) {
            x.probe(0, 1);
            x.probe(1, 1);
        }
        x.gather(0, 0);
        Due.due("stackOf(0, 1)", x.stackOf(0, 1), 500);
        x.day(0, 0, 0);
        Due.due("by 1 with wet at 500", x.stackOf(0, 2), 11);
        Due.due("an empty one stays", x.stackOf(1, 2), 10);
        x.day(0, 0, 20);
        Due.due("rain of 20 doesn't cool", x.stackOf(0, 2), 12);
        x.day(0, 0, 21);
        Due.due("rain of 21 cools by 3", x.stackOf(0, 2), 10);
        x.day(0, 0, 50);
        Due.due("10 at least", x.stackOf(0, 2), 10);

        // A ridged bay is brought to 501, just above 500.
        PeatBog z = new PeatBog();
        z.stack();
        z.mill(0, 1);
        z.mill(1, 1);
        z.ridge(1);
        z.day(10, 0, 0);
        z.day(10, 5, 0);
        z.day(10, 10, 0);
        z.day(2, 1, 0);
        z.day(0, 0, 1);
        Due.due("bay(0, 3)", z.bay(0, 3), 330);
        z.day(0, 0, 17);
        Due.due("bay(0, 3)", z.bay(0, 3), 500);
        Due.due("bay(1, 3)", z.bay(1, 3), 604);
        z.day(8, 1, 0);
        Due.due("bay(1, 3)", z.bay(1, 3), 553);
        z.day(9, 0, 1);
        Due.due("bay(1, 3)", z.bay(1, 3), 501);
        for (int i = 0; i < 3; i++) {
            z.probe(1, 1);
        }
        z.gather(1, 0);
        Due.due("stackOf(0, 1)", z.stackOf(0, 1), 501);
        z.day(0, 0, 0);
        Due.due("by 3 with wet at 501", z.stackOf(0, 2), 13);
        heatingByWeight();
    }

    private static void heatingByWeight() {
        PeatBog y = new PeatBog();
        y.stack();
        Due.bring(y, 0, 20, 0);
        Due.bring(y, 1, 20, 0);
        Due.bring(y, 2, 9, 0);
        y.day(0, 0, 0);
        Due.due("490 of wet peat: by 3", y.stackOf(0, 2), 13);
        Due.bring(y, 3, 1, 0);
        y.day(0, 0, 0);
        Due.due("500 of wet peat: by 4", y.stackOf(0, 2), 17);
        Due.bring(y, 4, 20, 0);
        Due.bring(y, 5, 20, 0);
        Due.bring(y, 6, 10, 0);
        y.day(0, 0, 30);
        Due.due("1,000 of wet peat in rain: by 2", y.stackOf(0, 2), 19);
        y.want(1000);
        y.day(0, 0, 0);
        Due.due("it heats ahead of the taking", y.stackOf(0, 2), 24);
        y.day(0, 0, 0);
        Due.due("without weight it stays", y.stackOf(0, 2), 24);

        PeatBog x = new PeatBog();
        x.stack();
        Due.bring(x, 0, 20, 0);
        Due.bring(x, 1, 20, 0);
        Due.bring(x, 2, 10, 0);
        x.want(1);
        x.day(0, 0, 0);
        Due.due("500 of wet peat: by 4", x.stackOf(0, 2), 14);
        x.day(0, 0, 0);
        Due.due("499 of wet peat: by 3", x.stackOf(0, 2), 17);
    }

    private static void burning() {
        PeatBog x = new PeatBog();
        x.stack();
        Due.bring(x, 0, 3, 0);
        x.day(0, 0, 0);
        x.day(0, 0, 0);
        for (int i = 0; i < 27; i++) {
            x.day(0, 0, 0);
        }
        Due.due("97", x.stackOf(0, 2), 97);
        Due.due("it doesn't burn yet", x.stackOf(0, 4), 0);
        Due.due("stackOf(0, 6)", x.stackOf(0, 6), PeatBog.NONE);
        Due.due("day", x.day(0, 0, 0), 30);
        Due.due("100", x.stackOf(0, 2), 100);
        Due.due("it burns", x.stackOf(0, 4), 1);
        Due.due("since the day that went by", x.stackOf(0, 6), 29);
        Due.due("no ash yet", x.stackOf(0, 0), 30);
        int[] left = {27, 25, 23, 21, 19, 18, 17, 16, 15, 14, 13, 12, 11, 10, 9, 8, 7, 6, 5, 4, 3, 2, 1, 0, 0};
        for (int weight : left) {
            x.day(0, 0, 50);
            Due.due("stackOf(0, 0)", x.stackOf(0, 0), weight);
            Due.due("count(8)", x.count(8), 30 - weight);
        }
        Due.due("the heat stays", x.stackOf(0, 2), 100);
        Due.due("it still counts as burning", x.stackOf(0, 4), 1);
        Due.due("stackOf(0, 6)", x.stackOf(0, 6), 29);
    }

    private static void burningAndTaking() {
        PeatBog x = new PeatBog();
        Due.passDays(x, 5);
        x.stack();
        Due.bring(x, 0, 10, 0);
        Due.enact(x, "if tons > 0 then send;");
        // The law of day 7 would send it: a text without rules takes its place.
        Due.enact(x, "");
        Due.passDays(x, 29);
        Due.due("97", x.stackOf(0, 2), 97);
        Due.enact(x, "if tons > 0 then send;");
        x.want(10);
        Due.due("day", x.day(0, 0, 0), 35);
        Due.due("it burns before the house takes", x.count(5), 0);
        Due.due("what lacks", x.count(7), 10);
        Due.due("and before the law acts", x.stackOf(0, 8), 0);
        Due.due("stackOf(0, 0)", x.stackOf(0, 0), 100);
        Due.due("stackOf(0, 6)", x.stackOf(0, 6), 34);
        Due.passDays(x, 7);
        Due.due("the law leaves what burns", x.count(4), 0);
        Due.due("100 less seven tenths", x.stackOf(0, 0), 49);
        Due.due("count(8)", x.count(8), 51);
        Due.due("count(6)", x.count(6), 80);
    }

    private static void taking() {
        PeatBog x = new PeatBog();
        x.stack();
        x.stack();
        x.stack();
        Due.bring(x, 0, 5, 1);
        Due.bring(x, 1, 3, 2);
        Due.bring(x, 2, 1, 0);
        x.want(25);
        x.day(0, 0, 0);
        Due.due("the first first", x.stackOf(0, 0), 0);
        Due.due("then the second", x.stackOf(1, 0), 35);
        Due.due("the third isn't touched", x.stackOf(2, 0), 30);
        Due.due("count(5)", x.count(5), 25);
        Due.due("count(7)", x.count(7), 0);
        x.want(100);
        x.day(0, 0, 0);
        Due.due("count(5)", x.count(5), 90);
        Due.due("count(7)", x.count(7), 35);
        x.want(4);
        x.day(0, 0, 0);
        Due.due("count(7) is of the latest day", x.count(7), 4);
        Due.due("count(6) is of all", x.count(6), 39);
        x.want(0);
        x.day(0, 0, 0);
        Due.due("count(7)", x.count(7), 0);
        Due.due("count(6)", x.count(6), 39);

        Due.bring(x, 3, 2, 0);
        Due.bring(x, 4, 6, 1);
        Due.enact(x, "if tons = 60 then send;");
        Due.passDays(x, 3);
        Due.due("count(4)", x.count(4), 60);
        x.want(50);
        x.day(0, 0, 0);
        Due.due("the store ahead of the stacks", x.count(4), 10);
        Due.due("stackOf(0, 0)", x.stackOf(0, 0), 20);
        x.want(25);
        x.day(0, 0, 0);
        Due.due("the store's rest", x.count(4), 0);
        Due.due("and of a stack", x.stackOf(0, 0), 5);
    }

    private static void lawActs() {
        PeatBog x = new PeatBog();
        for (int s = 0; s < 4; s++) {
            x.stack();
            Due.bring(x, s, s + 1, s);
        }
        Due.enact(x, "if heat < 50 and tons > 10 and weeks = 1 then turn;"
            + "if heat < 50 then keep;if tons < 40 then send;if tons = 40 then turn;");
        x.read(0, 49);
        x.read(1, 49);
        Due.passDays(x, 6);
        Due.due("nothing on the sixth", x.count(4), 0);
        Due.due("heat 28", x.stackOf(1, 2), 28);
        x.day(0, 0, 0);
        Due.due("the first whose tests hold is keep", x.stackOf(0, 2), 31);
        Due.due("kept", x.stackOf(0, 0) * 10 + x.stackOf(0, 7) + x.stackOf(0, 8), 100);
        Due.due("turned: half of 31, cut", x.stackOf(1, 2), 15);
        Due.due("turned once", x.stackOf(1, 7), 1);
        Due.due("never read: no test of heat holds, sent", x.stackOf(2, 8), 1);
        Due.due("stackOf(2, 0)", x.stackOf(2, 0), 0);
        Due.due("stackOf(2, 2)", x.stackOf(2, 2), 31);
        Due.due("stackOf(2, 7)", x.stackOf(2, 7), 0);
        Due.due("count(4)", x.count(4), 30);
        Due.due("count(5) isn't what was sent", x.count(5), 0);
        Due.due("turned: tons = 40", x.stackOf(3, 7), 1);
        Due.passDays(x, 7);
        Due.due("weeks is 2 now: kept", x.stackOf(1, 7), 1);
        Due.due("heat 36", x.stackOf(1, 2), 36);
        Due.due("turned again", x.stackOf(3, 7), 2);
        Due.due("half of 36", x.stackOf(3, 2), 18);

        // Nobody's test of heat holds before a reading, whatever the sign.
        PeatBog y = new PeatBog();
        y.stack();
        Due.bring(y, 0, 1, 0);
        Due.enact(y, "if heat < 9999 then send;if heat > 0 then send;if heat = 0 then send;if tons<9 then send;"
            + "if weeks > 0 and heat < 5 then send;");
        Due.passDays(y, 7);
        Due.due("nothing holds", y.stackOf(0, 8), 0);
        y.read(0, 10);
        Due.passDays(y, 7);
        Due.due("now one does", y.stackOf(0, 8), 1);

        PeatBog z = new PeatBog();
        z.stack();
        Due.bring(z, 0, 1, 0);
        Due.enact(z, "if tons > 0 then turn;");
        Due.passDays(z, 6);
        z.day(0, 0, 30);
        Due.due("28 turned", z.stackOf(0, 2), 14);
        for (int i = 0; i < 7; i++) {
            z.day(0, 0, 30);
        }
        Due.due("10 at least", z.stackOf(0, 2), 10);
        Due.due("turned twice", z.stackOf(0, 7), 2);
    }

    private static void signs() {
        // tons are 20, heat as read 20, weeks 2: each kind of test below, at and above.
        String[] kinds = {"tons", "heat", "weeks"};
        int[] values = {20, 20, 2};
        for (int kind = 0; kind < 3; kind++) {
            for (int off = -1; off <= 1; off++) {
                int bound = values[kind] + off;
                dueSent(kinds[kind] + "<" + bound, values[kind] < bound);
                dueSent(kinds[kind] + ">" + bound, values[kind] > bound);
                dueSent(kinds[kind] + "=" + bound, values[kind] == bound);
            }
        }
        dueSent("tons=20 and heat=20 and weeks=2", true);
        dueSent("tons=21 and heat=20 and weeks=2", false);
        dueSent("tons=20 and heat=21 and weeks=2", false);
        dueSent("tons=20 and heat=20 and weeks=1", false);
    }

    private static void dueSent(String tests, boolean want) {
        PeatBog x = new PeatBog();
        x.stack();
        Due.bring(x, 0, 2, 0);
        x.read(0, 20);
        Due.passDays(x, 13);
        Due.enact(x, "if " + tests + " then send;");
        x.day(0, 0, 0);
        Due.due("sent if " + tests, x.stackOf(0, 8), want ? 1 : 0);
        Due.due("store if " + tests, x.count(4), want ? 20 : 0);
    }

    private static void lawActsOnTheSeventh() {
        // Weeks are counted from the stack's own first day to the day that has come.
        PeatBog x = new PeatBog();
        x.stack();
        x.day(0, 0, 0);
        x.stack();
        Due.bring(x, 0, 1, 0);
        Due.bring(x, 1, 1, 1);
        Due.enact(x, "if weeks > 0 then turn;");
        Due.passDays(x, 6);
        Due.due("a week old", x.stackOf(0, 7), 1);
        Due.due("six days old", x.stackOf(1, 7), 0);
        Due.passDays(x, 7);
        Due.due("two weeks old", x.stackOf(0, 7), 2);
        Due.due("13 days old", x.stackOf(1, 7), 1);

        // An older law acts no more once a newer one is there.
        Due.enact(x, "limit 5;");
        Due.passDays(x, 7);
        Due.due("the newer has no rule", x.stackOf(0, 7), 2);

        // Of a stack without weight nothing is turned or sent; a weight of 1 is enough.
        PeatBog z = new PeatBog();
        z.stack();
        z.stack();
        Due.bring(z, 0, 1, 1);
        Due.enact(z, "if tons < 2 then turn;");
        Due.passDays(z, 6);
        z.want(9);
        z.day(0, 0, 0);
        Due.due("the empty one", z.stackOf(0, 7), 0);
        Due.due("the one of 1", z.stackOf(1, 7), 1);
        Due.enact(z, "if tons < 2 then send;");
        z.want(0);
        Due.passDays(z, 7);
        Due.due("the empty one", z.stackOf(0, 8), 0);
        Due.due("the one of 1", z.stackOf(1, 8), 1);

        // What the house took on the day isn't sent any more, and the sent isn't taken that day.
        PeatBog y = new PeatBog();
        y.stack();
        Due.bring(y, 0, 2, 0);
        Due.enact(y, "if tons < 11 then send;");
        Due.passDays(y, 6);
        y.want(10);
        y.day(0, 0, 0);
        Due.due("taken, then sent", y.count(4), 10);
        Due.due("count(5)", y.count(5), 10);
    }

    // More calls than an object is promised for: its last day can't be reached with fewer.
    private static void lastDay() {
        int answer = 0;
        PeatBog x = new PeatBog();
        for (int i = 1; i <= 1000; i++) {
            answer = x.day(0, 0, 0);
        }
        Due.due("the thousandth", answer, 1000);
        Due.due("no day behind it", x.day(0, 0, 0), PeatBog.NONE);
        Due.due("count(0)", x.count(0), 1000);
    }
}
