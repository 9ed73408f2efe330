/** Promise 8: gather. */
public final class GatherTest {
    public static void main(String[] args) {
        ordinary();
        refusals();
        burning();
        Due.finish();
    }

    private static void ordinary() {
        PeatBog x = new PeatBog();
        x.stack();
        x.stack();
        x.mill(0, 7);
        x.mill(1, 20);
        x.ridge(1);
        x.day(10, 10, 3);
        for (int i = 0; i < 3; i++) {
            x.probe(0, 1);
            x.probe(1, 1);
        }
        Due.due("gather(0, 1)", x.gather(0, 1), 70);
        int[] bay = {993, 0, 0, 0, 3, 1, 70};
        for (int what = 0; what < bay.length; what++) {
            Due.due("bay(0, " + what + ")", x.bay(0, what), bay[what]);
        }
        Due.due("stackOf(1, 0)", x.stackOf(1, 0), 70);
        Due.due("stackOf(1, 1)", x.stackOf(1, 1), 650);
        Due.due("gather(1, 1)", x.gather(1, 1), 200);
        // 70 of 650 and 200 of 717 make 699.6, cut.
        Due.due("stackOf(1, 1) is the mean, cut", x.stackOf(1, 1), 699);
        Due.due("stackOf(1, 0)", x.stackOf(1, 0), 270);
        Due.due("stackOf(0, 0)", x.stackOf(0, 0), 0);
        Due.due("count(9)", x.count(9), 270);
        x.day(0, 0, 0);
        Due.bring(x, 0, 5, 0);
        Due.due("bay(0, 6) is all ever", x.bay(0, 6), 120);

        // The mean is by the weight that is still there.
        PeatBog y = new PeatBog();
        y.stack();
        y.mill(0, 10);
        y.mill(1, 10);
        y.day(10, 10, 0);
        for (int i = 0; i < 3; i++) {
            y.probe(0, 1);
        }
        y.gather(0, 0);
        y.want(50);
        y.day(10, 0, 0);
        for (int i = 0; i < 3; i++) {
            y.probe(1, 1);
        }
        Due.due("gather(1, 0)", y.gather(1, 0), 100);
        Due.due("stackOf(0, 1)", y.stackOf(0, 1), (50 * 620 + 100 * 500) / 150);
    }

    private static void refusals() {
        PeatBog x = new PeatBog();
        Due.ready(x, 0, 5);
        Due.due("no such stack", x.gather(0, 0), PeatBog.NONE);
        x.stack();
        Due.due("gather(0, 1)", x.gather(0, 1), PeatBog.NONE);
        Due.due("gather(0, -1)", x.gather(0, -1), PeatBog.NONE);
        Due.due("gather(0, 10)", x.gather(0, 10), PeatBog.NONE);
        Due.due("gather(0, least)", x.gather(0, Integer.MIN_VALUE), PeatBog.NONE);
        Due.due("gather(-1, 0)", x.gather(-1, 0), PeatBog.NONE);
        Due.due("gather(16, 0)", x.gather(16, 0), PeatBog.NONE);
        Due.due("gather(1, 0), nothing lies", x.gather(1, 0), PeatBog.NONE);
        x.track(2);
        Due.due("the track is too far", x.gather(0, 0), PeatBog.NONE);
        Due.due("bay(0, 2) untouched", x.bay(0, 2), 50);
        Due.due("count(9) untouched", x.count(9), 0);
        x.track(1);
        Due.due("gather(0, 0)", x.gather(0, 0), 50);
        Due.due("gather twice", x.gather(0, 0), PeatBog.NONE);

        Due.enact(x, "if tons > 0 then send;");
        Due.passDays(x, 7);
        Due.due("stackOf(0, 8)", x.stackOf(0, 8), 1);
        Due.ready(x, 0, 5);
        Due.due("it was sent", x.gather(0, 0), PeatBog.NONE);
        Due.due("bay(0, 1) untouched", x.bay(0, 1), 1);
        x.stack();
        Due.due("another takes it", x.gather(0, 1), 50);
    }

    private static void burning() {
        PeatBog x = new PeatBog();
        x.stack();
        Due.bring(x, 0, 1, 0);
        Due.passDays(x, 30);
        Due.due("stackOf(0, 4)", x.stackOf(0, 4), 1);
        Due.ready(x, 0, 1);
        Due.due("it burns", x.gather(0, 0), PeatBog.NONE);
        Due.passDays(x, 10);
        Due.due("nothing is left", x.stackOf(0, 0), 0);
        for (int i = 0; i < 3; i++) {
            x.probe(0, 1);
        }
        Due.due("burnt down", x.gather(0, 0), PeatBog.NONE);
        Due.due("bars(0)", x.bars(0), 0);
    }
}
