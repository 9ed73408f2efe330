/** What each promise refuses: the answer to the first value that is not as told, and that nothing has changed. */
public final class RefusalsTest {
    private static final int NONE = PeatBog.NONE;
    private static final int LEAST = Integer.MIN_VALUE;
    private static final int GREATEST = Integer.MAX_VALUE;
    private static final int[] NO_BAYS = {-1, 16, LEAST, GREATEST};
    private static final int[] NO_STACKS = {-1, 4, 9, 10, LEAST, GREATEST};

    public static void main(String[] args) {
        busyIsAsMeant();
        depth();
        mill();
        millOrder();
        ridge();
        probe();
        stack();
        gatherBarred();
        gatherStacks();
        track();
        want();
        read();
        day();
        lastDay();
        feed();
        lawNumber();
        lawCount();
        lawFault();
        questions();
        Due.finish();
    }

    /** The state on which most calls are refused has one of each kind. */
    private static void busyIsAsMeant() {
        PeatBog x = new PeatBog();
        Refused.busy(x);
        // Of the ash, 200 burnt to 180, 162, 146, 132, 119 and 108.
        int[] counts = {36, 5, 5, 90, 0, 140, 0, 0, 92, 338, 4, 2, 20};
        for (int what = 0; what < counts.length; what++) {
            Due.due("count(" + what + ")", x.count(what), counts[what]);
        }
        Due.due("stack 0 burns", x.stackOf(0, 4), 1);
        Due.due("stack 1 was sent", x.stackOf(1, 8), 1);
        Due.due("stack 2 was turned", x.stackOf(2, 7), 1);
        Due.due("stack 3 takes peat", x.stackOf(3, 4) + x.stackOf(3, 8), 0);
        int[] bars = {1, 1, 1, 1, 0, 4, 5, 1, 1, 3, 1, 1, 1, 1, 2, 1};
        for (int b = 0; b < 16; b++) {
            Due.due("bars(" + b + ")", x.bars(b), bars[b]);
        }
    }

    private static void depth() {
        Due.of("False, doing nothing: not as told, it doesn't REST.");
        for (int bay : NO_BAYS) {
            Refused.due("depth(" + bay + ", 5)", Refused::busy, x -> x.depth(bay, 5) ? 1 : 0, false);
        }
        for (int deep : new int[] {-1, 3001, LEAST, GREATEST}) {
            Refused.due("depth(0, " + deep + ")", Refused::busy, x -> x.depth(0, deep) ? 1 : 0, false);
        }
        Refused.due("depth of a milled bay", Refused::busy, x -> x.depth(5, 5) ? 1 : 0, false);
        Refused.due("depth of a ridged bay", Refused::busy, x -> x.depth(4, 5) ? 1 : 0, false);
    }

    private static void mill() {
        Due.of("-2 not as told");
        for (int bay : NO_BAYS) {
            Refused.due("mill(" + bay + ", 5)", Refused::busy, x -> x.mill(bay, 5), -2);
        }
        for (int much : new int[] {0, 21, -1, LEAST, GREATEST}) {
            Refused.due("mill(0, " + much + ")", Refused::busy, x -> x.mill(0, much), -2);
        }
        Due.of("-3 it doesn't REST");
        Refused.due("mill of a milled bay", Refused::busy, x -> x.mill(5, 1), -3);
        Refused.due("mill of a ridged bay", Refused::busy, x -> x.mill(4, 1), -3);
        Due.of("-4 CLOSED today");
        Refused.due("mill of the first closed bay", Refused::busy, x -> x.mill(13, 1), -4);
        Refused.due("mill of the last closed bay", Refused::busy, x -> x.mill(15, 20), -4);
        Due.of("-5 less than THE LAW's DEPTH would be left (or below 0)");
        Refused.due("mill to 119 where 120 must be left", Refused::busy, x -> x.mill(10, 11), -5);
        Refused.due("mill to 110 where 120 must be left", Refused::busy, x -> x.mill(10, 20), -5);
        Refused.due("mill below 0", x -> x.depth(10, 4), x -> x.mill(10, 5), -5);
        Refused.due("mill of nothing", x -> x.depth(10, 0), x -> x.mill(10, 1), -5);
    }

    private static void millOrder() {
        Due.of("Refused, doing nothing, at the first of: -2 not as told; -3 it doesn't REST; -4 CLOSED today; -5");
        Refused.due("a lying bay, 0 of it", Refused::busy, x -> x.mill(14, 0), -2);
        Refused.due("a lying bay, 21 of it", Refused::busy, x -> x.mill(14, 21), -2);
        Refused.due("a lying bay that is closed", Refused::busy, x -> x.mill(14, 1), -3);
        Refused.Past shallow = x -> {
            x.depth(13, 3);
            Refused.busy(x);
        };
        Refused.due("a closed bay that is too shallow", shallow, x -> x.mill(13, 4), -4);
    }

    private static void ridge() {
        Due.of("RIDGING: true; false, doing nothing: not MILLED, none such.");
        for (int bay : NO_BAYS) {
            Refused.due("ridge(" + bay + ")", Refused::busy, x -> x.ridge(bay) ? 1 : 0, false);
        }
        Refused.due("ridge of a bay at rest", Refused::busy, x -> x.ridge(0) ? 1 : 0, false);
        Refused.due("ridge of a ridged bay", Refused::busy, x -> x.ridge(4) ? 1 : 0, false);
    }

    private static void probe() {
        Due.of("NONE, doing nothing: not as told, 8 are there.");
        for (int bay : NO_BAYS) {
            Refused.due("probe(" + bay + ", 5)", Refused::busy, x -> x.probe(bay, 5), NONE);
        }
        for (int wet : new int[] {-1, 901, LEAST, GREATEST}) {
            Refused.due("probe(5, " + wet + ")", Refused::busy, x -> x.probe(5, wet), NONE);
        }
        Refused.due("probe where nothing lies", Refused::busy, x -> x.probe(7, 5), NONE);
        Refused.due("probe of a bay gathered today", Refused::busy, x -> x.probe(3, 5), NONE);
        Refused.due("the ninth", Refused::busy, x -> x.probe(6, 900), NONE);
    }

    private static void stack() {
        Due.of("A STACK is begun: its number. NONE: 10 are there.");
        Refused.Past ten = x -> {
            Refused.busy(x);
            for (int s = 4; s < 10; s++) {
                Due.due("stack()", x.stack(), s);
            }
        };
        Refused.due("the eleventh", ten, x -> x.stack(), NONE);
    }

    private static void gatherBarred() {
        Due.of("NONE, doing nothing: something bars it");
        for (int bay : NO_BAYS) {
            Refused.due("gather(" + bay + ", 3)", Refused::busy, x -> x.gather(bay, 3), NONE);
        }
        Refused.due("bars 1: nothing lies on it", Refused::busy, x -> x.gather(3, 3), NONE);
        Refused.Past closedNear = x -> {
            Refused.busy(x);
            x.track(14);
            Due.probes(x, 14, 3, 1);
        };
        Refused.due("bars 2: closed", closedNear, x -> x.gather(14, 3), NONE);
        Refused.due("bars 3: the track is too far", Refused::busy, x -> x.gather(9, 3), NONE);
        Refused.due("bars 4: two probes", Refused::busy, x -> x.gather(5, 3), NONE);
        Refused.due("bars 5: above the limit", Refused::busy, x -> x.gather(6, 3), NONE);
    }

    private static void gatherStacks() {
        Due.of("no such STACK, it BURNS or was sent.");
        for (int stack : NO_STACKS) {
            Refused.due("gather(4, " + stack + ")", Refused::busy, x -> x.gather(4, stack), NONE);
        }
        Refused.due("to one that burns", Refused::busy, x -> x.gather(4, 0), NONE);
        Refused.due("to one that was sent", Refused::busy, x -> x.gather(4, 1), NONE);
    }

    private static void track() {
        Due.of("THE TRACK is moved: HOURS. NONE: no such BAY.");
        for (int bay : NO_BAYS) {
            Refused.due("track(" + bay + ")", Refused::busy, x -> x.track(bay), NONE);
        }
    }

    private static void want() {
        Due.of("The power house's WANT: true; false: not as told.");
        for (int much : new int[] {-1, 1001, LEAST, GREATEST}) {
            Refused.due("want(" + much + ")", Refused::busy, x -> x.want(much) ? 1 : 0, false);
        }
    }

    private static void read() {
        Due.of("HEAT of a STACK is READ (0 to 100): true; false: none such.");
        for (int stack : NO_STACKS) {
            Refused.due("read(" + stack + ", 5)", Refused::busy, x -> x.read(stack, 5) ? 1 : 0, false);
        }
        for (int heat : new int[] {-1, 101, LEAST, GREATEST}) {
            Refused.due("read(2, " + heat + ")", Refused::busy, x -> x.read(2, heat) ? 1 : 0, false);
        }
    }

    private static void day() {
        Due.of("A DAY goes by: TODAY. NONE, doing nothing: not as told");
        for (int wrong : new int[] {-1, 11, LEAST, GREATEST}) {
            Refused.due("day(" + wrong + ", 0, 0)", Refused::busy, x -> x.day(wrong, 0, 0), NONE);
            Refused.due("day(0, " + wrong + ", 0)", Refused::busy, x -> x.day(0, wrong, 0), NONE);
        }
        for (int rain : new int[] {-1, 51, LEAST, GREATEST}) {
            Refused.due("day(0, 0, " + rain + ")", Refused::busy, x -> x.day(0, 0, rain), NONE);
        }
    }

    /** More calls than an object is promised for: its last day can't be reached with fewer. */
    private static void lastDay() {
        Due.of("NONE, doing nothing: not as told, it's 1,000.");
        Refused.Past thousand = x -> {
            x.stack();
            x.want(3);
            x.mill(0, 4);
            for (int day = 1; day <= 1000; day++) {
                Due.due("day", x.day(1, 1, 50), day);
            }
            x.probe(0, 4);
        };
        Refused.due("day(1, 1, 0) on the last day", thousand, x -> x.day(1, 1, 0), NONE);
    }

    private static void feed() {
        Due.of("NONE, doing nothing: there would be more than 500.");
        Refused.Past full = x -> {
            Refused.busy(x);
            Due.due("the last feed", Due.feedBytes(x, Due.bytesOf(" depth 321;".repeat(14) + " ".repeat(326))), 500);
        };
        int limit = 0x6c696d69;
        Refused.due("feed beyond 500", full, x -> x.feed(limit, limit, limit, limit, limit), NONE);
        PeatBog x = new PeatBog();
        full.of(x);
        x.feed(limit, limit, limit, limit, limit);
        Due.due("the 500 bytes are as they were", x.law(500), 2);
        Due.due("limit of them", x.tells(36, 0), 333);
        Due.due("depth of them", x.tells(36, 1), 321);
    }

    private static void lawNumber() {
        Due.of("-2, doing nothing: n is below 0 or more than there are");
        for (int n : new int[] {-1, 21, 500, 501, LEAST, GREATEST}) {
            Refused.due("law(" + n + ") of 20 bytes", Refused::busy, x -> x.law(n), -2);
        }
        Refused.due("law(1) of none", x -> x.stack(), x -> x.law(1), -2);
        Refused.due("law(-1) of none", x -> x.stack(), x -> x.law(-1), -2);
    }

    private static void lawCount() {
        Due.of("-3, doing nothing: there are 8.");
        Refused.Past eight = x -> {
            Refused.busy(x);
            for (int l = 2; l < 8; l++) {
                Due.due("law(10)", x.law(10), l);
                Due.feedBytes(x, Due.bytesOf("limit 444;"));
            }
        };
        Refused.due("the ninth", eight, x -> x.law(10), -3);
        Refused.due("the ninth, without bytes", eight, x -> x.law(0), -3);
        Refused.due("the ninth, with a fault", eight, x -> x.law(9), -3);
        Refused.due("the ninth, of more bytes than there are", eight, x -> x.law(21), -2);
    }

    /** A text with a fault takes the tape and is told by fault(), and nothing else. */
    private static void lawFault() {
        Due.of("NONE: a FAULT");
        Refused.Past emptied = x -> {
            Refused.busy(x);
            Due.due("law(0)", x.law(0), 2);
            Due.enact(x, "limit");
        };
        Refused.due("a fault at the same place again", emptied, x -> {
            Due.feedBytes(x, Due.bytesOf("depth 1;close 0 to 15 from 0 to 364;if tons>0 then send;limit ?"));
            Due.due("law(5)", x.law(5), NONE);
            Due.feedBytes(x, Due.bytesOf("depth,1;if tons>0 then send;close 0 to 9 from 0 to 9;"));
            return x.law(53);
        }, NONE);
    }

    /** Questions change nothing, whatever is asked. */
    private static void questions() {
        Due.of("Nothing is promised beyond the answers and state changes described above");
        for (int what : new int[] {-1, 3, 9, 26, LEAST, GREATEST}) {
            Refused.due("tells(36, " + what + ")", Refused::busy, x -> x.tells(36, what), NONE);
        }
        for (int day : new int[] {-1, 1001, LEAST, GREATEST}) {
            Refused.due("tells(" + day + ", 0)", Refused::busy, x -> x.tells(day, 0), NONE);
        }
        for (int bay : NO_BAYS) {
            Refused.due("bay(" + bay + ", 0)", Refused::busy, x -> x.bay(bay, 0), NONE);
            Refused.due("bars(" + bay + ")", Refused::busy, x -> x.bars(bay), 1);
        }
        for (int stack : NO_STACKS) {
            Refused.due("stackOf(" + stack + ", 0)", Refused::busy, x -> x.stackOf(stack, 0), NONE);
        }
        Refused.due("bay(0, 7)", Refused::busy, x -> x.bay(0, 7), NONE);
        Refused.due("stackOf(0, 9)", Refused::busy, x -> x.stackOf(0, 9), NONE);
        Refused.due("count(13)", Refused::busy, x -> x.count(13), NONE);
        Refused.due("best(0, NONE)", Refused::busy, x -> x.best(0, NONE), NONE);
        Refused.due("best(4, NONE)", Refused::busy, x -> x.best(4, NONE), NONE);
        Refused.due("best(3, 3)", Refused::busy, x -> x.best(3, 3), NONE);
        Refused.due("best(3, -2)", Refused::busy, x -> x.best(3, -2), NONE);
        Refused.due("best(3, NONE)", Refused::busy, x -> x.best(3, NONE) > 0 ? 1 : 0, 1);
        Refused.due("lasts()", Refused::busy, x -> x.lasts(), 2);
    }
}
