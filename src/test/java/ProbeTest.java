/** Promise 5: probe. */
public final class ProbeTest {
    public static void main(String[] args) {
        PeatBog x = new PeatBog();
        Due.due("probe where nothing lies", x.probe(2, 5), PeatBog.NONE);
        x.mill(2, 5);
        Due.due("probe(2, -1)", x.probe(2, -1), PeatBog.NONE);
        Due.due("probe(2, 901)", x.probe(2, 901), PeatBog.NONE);
        Due.due("probe(-1, 5)", x.probe(-1, 5), PeatBog.NONE);
        Due.due("probe(16, 5)", x.probe(16, 5), PeatBog.NONE);
        Due.due("probe(least, least)", x.probe(Integer.MIN_VALUE, Integer.MIN_VALUE), PeatBog.NONE);
        Due.due("bay(2, 4)", x.bay(2, 4), 0);
        Due.due("probe(2, 0)", x.probe(2, 0), 1);
        Due.due("bay(2, 5)", x.bay(2, 5), 0);
        Due.due("probe(2, 900)", x.probe(2, 900), 2);
        Due.due("bay(2, 5)", x.bay(2, 5), 900);
        x.ridge(2);
        for (int i = 3; i <= 8; i++) {
            Due.due("probe(2, " + i + ")", x.probe(2, i), i);
        }
        Due.due("the ninth", x.probe(2, 1), PeatBog.NONE);
        Due.due("bay(2, 4)", x.bay(2, 4), 8);
        Due.due("bay(2, 5) is the greatest", x.bay(2, 5), 900);
        x.mill(3, 1);
        Due.due("another bay has its own", x.probe(3, 7), 1);

        Due.due("a wrong day leaves them", x.day(0, 0, 51), PeatBog.NONE);
        Due.due("bay(2, 4)", x.bay(2, 4), 8);
        x.day(0, 0, 0);
        Due.due("bay(2, 4) the next day", x.bay(2, 4), 0);
        Due.due("bay(2, 5) the next day", x.bay(2, 5), PeatBog.NONE);
        Due.due("probe the next day", x.probe(2, 33), 1);
        Due.due("bay(2, 5)", x.bay(2, 5), 33);

        // They are of the day: gathering says nothing of them, and the day takes them at rest too.
        PeatBog y = new PeatBog();
        y.stack();
        Due.bring(y, 0, 4, 0);
        Due.due("bay(0, 4) of today, gathered", y.bay(0, 4), 3);
        Due.due("probe where nothing lies any more", y.probe(0, 1), PeatBog.NONE);
        y.day(0, 0, 0);
        Due.due("bay(0, 4) at rest, the next day", y.bay(0, 4), 0);
        Due.due("bay(0, 5) at rest, the next day", y.bay(0, 5), PeatBog.NONE);
        Due.finish();
    }
}
