/** Promise 2: depth. */
public final class DepthTest {
    public static void main(String[] args) {
        PeatBog x = new PeatBog();
        Due.due("depth(0, 0)", x.depth(0, 0), true);
        Due.due("bay(0, 0)", x.bay(0, 0), 0);
        Due.due("depth(15, 3000)", x.depth(15, 3000), true);
        Due.due("bay(15, 0)", x.bay(15, 0), 3000);
        Due.due("depth(15, 3001)", x.depth(15, 3001), false);
        Due.due("depth(15, -1)", x.depth(15, -1), false);
        Due.due("bay(15, 0) untouched", x.bay(15, 0), 3000);
        Due.due("depth(-1, 5)", x.depth(-1, 5), false);
        Due.due("depth(16, 5)", x.depth(16, 5), false);
        Due.due("depth(least, least)", x.depth(Integer.MIN_VALUE, Integer.MIN_VALUE), false);
        Due.due("depth(greatest, 5)", x.depth(Integer.MAX_VALUE, 5), false);
        Due.due("bay(14, 0) untouched", x.bay(14, 0), 1000);

        x.mill(3, 20);
        Due.due("depth of a milled bay", x.depth(3, 7), false);
        Due.due("bay(3, 0)", x.bay(3, 0), 980);
        x.ridge(3);
        Due.due("depth of a ridged bay", x.depth(3, 7), false);

        x.stack();
        Due.bring(x, 5, 1, 0);
        Due.due("depth once it rests again", x.depth(5, 7), true);
        Due.due("bay(5, 0)", x.bay(5, 0), 7);
        Due.finish();
    }
}
