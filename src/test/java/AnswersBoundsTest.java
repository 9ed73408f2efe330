/** The bounds of what can be asked: each number that has an answer, and those beside them that have none. */
public final class AnswersBoundsTest {
    private static final int NONE = PeatBog.NONE;
    private static final int[] FAR = {Integer.MIN_VALUE, -1000000, 1000000, Integer.MAX_VALUE};

    public static void main(String[] args) {
        tellsWhat();
        bayWhat();
        bayAtRest();
        greatestProbe();
        gatheredEver();
        stackWhat();
        stackFirsts();
        lastsCut();
        lastsWhat();
        countWhat();
        countFirsts();
        Due.finish();
    }

    private static void dueNone(String call, int got) {
        Due.due(call, got, NONE);
    }

    private static void tellsWhat() {
        Due.of("Of THE LAW in force on a DAY (0 to 1,000): LIMIT (0), DEPTH (1), its number (2; NONE)");
        PeatBog x = new PeatBog();
        dueNone("its number without one", x.tells(0, 2));
        Due.enact(x, "limit 700;depth 12;close 0 to 0 from 0 to 364;close 15 to 15 from 0 to 364;");
        int[] due = new int[28];
        java.util.Arrays.fill(due, NONE);
        java.util.Arrays.fill(due, 10, 26, 0);
        due[0] = 700;
        due[1] = 12;
        due[2] = 0;
        due[10] = 1;
        due[25] = 1;
        for (int what = 0; what < due.length; what++) {
            Due.due("tells(0, " + what + ")", x.tells(0, what), due[what]);
            Due.due("tells(1000, " + what + ")", x.tells(1000, what), due[what]);
            dueNone("tells(-1, " + what + ")", x.tells(-1, what));
            dueNone("tells(1001, " + what + ")", x.tells(1001, what));
        }
        dueNone("tells(0, -1)", x.tells(0, -1));
        for (int far : FAR) {
            dueNone("tells(0, " + far + ")", x.tells(0, far));
            dueNone("tells(" + far + ", 0)", x.tells(far, 0));
        }
    }

    private static void bayWhat() {
        Due.of("NONE: none such; 2 and 3 are 0 of one that RESTS.");
        PeatBog x = new PeatBog();
        x.mill(0, 2);
        x.mill(15, 3);
        x.ridge(15);
        x.probe(15, 77);
        int[] first = {998, 1, 20, 800, 0, NONE, 0};
        int[] last = {997, 2, 30, 800, 1, 77, 0};
        for (int what = 0; what < 7; what++) {
            Due.due("bay(0, " + what + ")", x.bay(0, what), first[what]);
            Due.due("bay(15, " + what + ")", x.bay(15, what), last[what]);
            dueNone("bay(-1, " + what + ")", x.bay(-1, what));
            dueNone("bay(16, " + what + ")", x.bay(16, what));
        }
        dueNone("bay(0, -1)", x.bay(0, -1));
        dueNone("bay(0, 7)", x.bay(0, 7));
        for (int far : FAR) {
            dueNone("bay(0, " + far + ")", x.bay(0, far));
            dueNone("bay(" + far + ", 0)", x.bay(far, 0));
        }
    }

    private static void bayAtRest() {
        Due.of("2 and 3 are 0 of one that RESTS");
        PeatBog x = new PeatBog();
        x.stack();
        Due.due("bay(0, 2) never milled", x.bay(0, 2), 0);
        Due.due("bay(0, 3) never milled", x.bay(0, 3), 0);
        Due.ready(x, 0, 7);
        Due.due("bay(0, 2) milled", x.bay(0, 2), 70);
        Due.due("bay(0, 3) milled", x.bay(0, 3), 800);
        x.gather(0, 0);
        Due.due("bay(0, 1) gathered", x.bay(0, 1), 0);
        Due.due("bay(0, 2) gathered", x.bay(0, 2), 0);
        Due.due("bay(0, 3) gathered", x.bay(0, 3), 0);
    }

    private static void greatestProbe() {
        Due.of("4 PROBES of TODAY, 5 the greatest of them (NONE)");
        PeatBog x = new PeatBog();
        x.mill(2, 1);
        int[] wet = {0, 5, 4, 5, 6, 0, 900, 899};
        int[] greatest = {0, 5, 5, 5, 6, 6, 900, 900};
        dueNone("of none", x.bay(2, 5));
        for (int i = 0; i < wet.length; i++) {
            x.probe(2, wet[i]);
            Due.due("bay(2, 4)", x.bay(2, 4), i + 1);
            Due.due("bay(2, 5)", x.bay(2, 5), greatest[i]);
        }
        x.day(0, 0, 0);
        Due.due("bay(2, 4) the next day", x.bay(2, 4), 0);
        dueNone("bay(2, 5) the next day", x.bay(2, 5));
    }

    private static void gatheredEver() {
        Due.of("6 all that was ever gathered of it");
        PeatBog x = new PeatBog();
        x.stack();
        x.stack();
        Due.due("bay(3, 6)", x.bay(3, 6), 0);
        Due.bring(x, 3, 20, 0);
        Due.due("bay(3, 6)", x.bay(3, 6), 200);
        x.want(1000);
        x.day(0, 0, 0);
        Due.bring(x, 3, 1, 1);
        Due.due("taken or not, to whatever stack", x.bay(3, 6), 210);
        Due.due("of it alone", x.bay(4, 6), 0);
    }

    private static void stackWhat() {
        Due.of("7 how often it was turned, 8 sent (1). NONE: none such.");
        PeatBog x = new PeatBog();
        for (int what = -1; what <= 9; what++) {
            dueNone("stackOf(0, " + what + ") of none", x.stackOf(0, what));
        }
        Due.passDays(x, 2);
        for (int s = 0; s < 10; s++) {
            x.stack();
        }
        x.read(9, 55);
        Due.bring(x, 1, 2, 9);
        x.day(0, 0, 0);
        int[] first = {0, 0, 10, NONE, 0, 2, NONE, 0, 0};
        int[] last = {20, 800, 13, 55, 0, 2, NONE, 0, 0};
        for (int what = 0; what < 9; what++) {
            Due.due("stackOf(0, " + what + ")", x.stackOf(0, what), first[what]);
            Due.due("stackOf(9, " + what + ")", x.stackOf(9, what), last[what]);
            dueNone("stackOf(-1, " + what + ")", x.stackOf(-1, what));
            dueNone("stackOf(10, " + what + ")", x.stackOf(10, what));
        }
        dueNone("stackOf(9, -1)", x.stackOf(9, -1));
        dueNone("stackOf(9, 9)", x.stackOf(9, 9));
        for (int far : FAR) {
            dueNone("stackOf(9, " + far + ")", x.stackOf(9, far));
            dueNone("stackOf(" + far + ", 0)", x.stackOf(far, 0));
        }
    }

    private static void stackFirsts() {
        Due.of("5 the DAY on which it was begun, 6 the DAY from which it BURNS (NONE; as the DAY began)");
        PeatBog x = new PeatBog();
        x.stack();
        x.day(0, 0, 0);
        x.stack();
        Due.due("begun on the first day", x.stackOf(0, 5), 0);
        Due.due("begun on the next", x.stackOf(1, 5), 1);
        Due.bring(x, 0, 1, 0);
        Due.passDays(x, 29);
        Due.due("97 on day 30", x.stackOf(0, 2), 97);
        dueNone("stackOf(0, 6)", x.stackOf(0, 6));
        Due.due("day", x.day(0, 0, 0), 31);
        Due.due("as the day began it was 30", x.stackOf(0, 6), 30);
        Due.passDays(x, 3);
        Due.due("it stays", x.stackOf(0, 6), 30);
        dueNone("the other", x.stackOf(1, 6));
    }

    private static void lastsCut() {
        Due.of("How many DAYS of WANT store and STACKS that don't BURN have (cut); NONE: WANT is 0.");
        PeatBog x = new PeatBog();
        x.stack();
        dueNone("nothing wanted, nothing there", x.lasts());
        Due.bring(x, 0, 10, 0);
        dueNone("nothing wanted", x.lasts());
        int[] wants = {1, 33, 34, 49, 50, 51, 99, 100, 101, 1000};
        int[] lasts = {100, 3, 2, 2, 2, 1, 1, 1, 0, 0};
        for (int i = 0; i < wants.length; i++) {
            x.want(wants[i]);
            Due.due("100 by " + wants[i], x.lasts(), lasts[i]);
        }
        x.want(0);
        dueNone("nothing wanted any more", x.lasts());
        PeatBog y = new PeatBog();
        y.want(1);
        Due.due("nothing there", y.lasts(), 0);
    }

    private static void lastsWhat() {
        Due.of("How many DAYS of WANT store and STACKS that don't BURN have (cut)");
        PeatBog x = new PeatBog();
        x.stack();
        x.stack();
        x.stack();
        Due.bring(x, 0, 4, 0);
        Due.bring(x, 1, 5, 1);
        x.read(1, 1);
        Due.enact(x, "if heat=1 then send;");
        Due.passDays(x, 30);
        Due.bring(x, 2, 6, 2);
        Due.due("one burns", x.stackOf(0, 4), 1);
        Due.due("one is in the store", x.count(4), 50);
        x.want(110);
        Due.due("50 and 60 by 110", x.lasts(), 1);
        x.want(111);
        Due.due("50 and 60 by 111", x.lasts(), 0);
        Due.due("it takes nothing", x.count(5), 0);
    }

    private static void countWhat() {
        Due.of("11 LAWS, 12 bytes on the tape. NONE for others.");
        PeatBog x = new PeatBog();
        for (int what = 0; what <= 12; what++) {
            Due.due("count(" + what + ")", x.count(what), 0);
        }
        dueNone("count(-1)", x.count(-1));
        dueNone("count(13)", x.count(13));
        for (int far : FAR) {
            dueNone("count(" + far + ")", x.count(far));
        }
    }

    private static void countFirsts() {
        Due.of("6 what lacked ever, 7 what lacked on the latest DAY, 8 ash, 9 WEIGHT in STACKS");
        PeatBog x = new PeatBog();
        x.stack();
        x.stack();
        Due.bring(x, 0, 2, 0);
        Due.passDays(x, 30);
        Due.bring(x, 1, 3, 1);
        Due.due("what burns counts, too", x.count(9), 50);
        x.want(31);
        x.day(0, 0, 0);
        Due.due("lacked ever", x.count(6), 1);
        Due.due("lacked on the latest day", x.count(7), 1);
        Due.due("ash", x.count(8), 2);
        Due.due("weight in stacks", x.count(9), 18);
        x.want(5);
        Due.due("wanted, no day gone by", x.count(7), 1);
        x.day(0, 0, 0);
        Due.due("lacked ever", x.count(6), 6);
        Due.due("lacked on the latest day", x.count(7), 5);
        Due.due("a refused day", x.day(0, 0, 51), NONE);
        Due.due("lacked on the latest day", x.count(7), 5);
        x.want(0);
        x.day(0, 0, 0);
        Due.due("lacked ever", x.count(6), 6);
        Due.due("lacked on the latest day", x.count(7), 0);
    }
}
