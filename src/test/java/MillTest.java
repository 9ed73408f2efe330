/** Promise 3: mill. */
public final class MillTest {
    public static void main(String[] args) {
        ordinary();
        refusals();
        order();
        Due.finish();
    }

    private static void ordinary() {
        PeatBog x = new PeatBog();
        Due.due("mill(15, 1)", x.mill(15, 1), 0);
        Due.due("bay(15, 0)", x.bay(15, 0), 999);
        Due.due("bay(15, 1)", x.bay(15, 1), 1);
        Due.due("bay(15, 2)", x.bay(15, 2), 10);
        Due.due("bay(15, 3)", x.bay(15, 3), 800);
        Due.due("mill(0, 20)", x.mill(0, 20), 0);
        Due.due("bay(0, 2)", x.bay(0, 2), 200);
        Due.due("mill of a milled bay", x.mill(0, 1), -3);
        x.ridge(0);
        Due.due("mill of a ridged bay", x.mill(0, 1), -3);
        Due.due("bay(0, 0) untouched", x.bay(0, 0), 980);
        Due.due("bay(0, 1) untouched", x.bay(0, 1), 2);
    }

    private static void refusals() {
        PeatBog x = new PeatBog();
        Due.due("mill(-1, 1)", x.mill(-1, 1), -2);
        Due.due("mill(16, 1)", x.mill(16, 1), -2);
        Due.due("mill(0, 0)", x.mill(0, 0), -2);
        Due.due("mill(0, 21)", x.mill(0, 21), -2);
        Due.due("mill(least, greatest)", x.mill(Integer.MIN_VALUE, Integer.MAX_VALUE), -2);
        Due.due("mill(0, least)", x.mill(0, Integer.MIN_VALUE), -2);

        x.depth(0, 19);
        Due.due("mill below nothing", x.mill(0, 20), -5);
        Due.due("bay(0, 0) untouched", x.bay(0, 0), 19);
        Due.due("bay(0, 1) untouched", x.bay(0, 1), 0);
        Due.due("mill down to nothing", x.mill(0, 19), 0);
        Due.due("bay(0, 0)", x.bay(0, 0), 0);

        Due.due("law", Due.enact(x, "depth 1;depth 990;"), 0);
        Due.due("mill past the law's depth", x.mill(1, 11), -5);
        Due.due("mill down to the law's depth", x.mill(1, 10), 0);
        Due.due("law", Due.enact(x, "close 2 to 2 from 1 to 1;"), 1);
        Due.due("mill a day ahead of the closing", x.mill(4, 20), 0);
        Due.due("mill the closed bay a day ahead", x.mill(2, 20), 0);
        x.day(0, 0, 0);
        Due.enact(x, "close 3 to 3 from 1 to 1;");
        Due.due("mill on the closed day", x.mill(3, 20), -4);
        Due.due("bay(3, 1) untouched", x.bay(3, 1), 0);
        x.day(0, 0, 0);
        Due.due("mill a day later", x.mill(3, 20), 0);
    }

    private static void order() {
        PeatBog x = new PeatBog();
        x.mill(0, 5);
        x.depth(1, 3);
        Due.enact(x, "close 0 to 1 from 0 to 364;depth 9999;");
        Due.due("-2 ahead of -3", x.mill(0, 21), -2);
        Due.due("-3 ahead of -4", x.mill(0, 1), -3);
        Due.due("-4 ahead of -5", x.mill(1, 5), -4);
        Due.due("-5", x.mill(2, 5), -5);
    }
}
