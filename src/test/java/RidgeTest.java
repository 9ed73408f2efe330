/** Promise 4: ridge. */
public final class RidgeTest {
    public static void main(String[] args) {
        PeatBog x = new PeatBog();
        Due.due("ridge of one at rest", x.ridge(0), false);
        Due.due("bay(0, 1)", x.bay(0, 1), 0);
        x.mill(0, 3);
        Due.due("ridge(0)", x.ridge(0), true);
        Due.due("bay(0, 1)", x.bay(0, 1), 2);
        Due.due("bay(0, 2)", x.bay(0, 2), 30);
        Due.due("bay(0, 3)", x.bay(0, 3), 800);
        Due.due("ridge again", x.ridge(0), false);
        Due.due("bay(0, 1)", x.bay(0, 1), 2);
        Due.due("ridge(-1)", x.ridge(-1), false);
        Due.due("ridge(16)", x.ridge(16), false);
        Due.due("ridge(least)", x.ridge(Integer.MIN_VALUE), false);
        x.mill(15, 1);
        Due.enact(x, "close 0 to 15 from 0 to 364;");
        Due.due("ridge of a closed bay", x.ridge(15), true);

        PeatBog y = new PeatBog();
        y.stack();
        Due.ready(y, 1, 2);
        Due.due("ridge keeps the probes", y.ridge(1), true);
        Due.due("gather of a ridged one", y.gather(1, 0), 20);
        Due.due("ridge once it rests again", y.ridge(1), false);
        Due.finish();
    }
}
