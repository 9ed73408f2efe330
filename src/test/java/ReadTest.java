/** Promise 11: read. */
public final class ReadTest {
    public static void main(String[] args) {
        PeatBog x = new PeatBog();
        Due.due("none begun", x.read(0, 50), false);
        x.stack();
        Due.due("read(0, 0)", x.read(0, 0), true);
        Due.due("stackOf(0, 3)", x.stackOf(0, 3), 0);
        Due.due("read(0, 100)", x.read(0, 100), true);
        Due.due("stackOf(0, 3)", x.stackOf(0, 3), 100);
        Due.due("read(0, 101)", x.read(0, 101), false);
        Due.due("read(0, -1)", x.read(0, -1), false);
        Due.due("read(1, 5)", x.read(1, 5), false);
        Due.due("read(-1, 5)", x.read(-1, 5), false);
        Due.due("read(10, 5)", x.read(10, 5), false);
        Due.due("read(least, 5)", x.read(Integer.MIN_VALUE, 5), false);
        Due.due("stackOf(0, 3) untouched", x.stackOf(0, 3), 100);
        Due.due("stackOf(0, 2) is its own", x.stackOf(0, 2), 10);
        x.day(0, 0, 0);
        Due.due("stackOf(0, 3) the next day", x.stackOf(0, 3), 100);

        // The law acts on what was read, not on the heat that is there.
        PeatBog y = new PeatBog();
        y.stack();
        Due.bring(y, 0, 1, 0);
        Due.enact(y, "if heat = 99 then turn;");
        y.read(0, 99);
        Due.passDays(y, 7);
        Due.due("turned", y.stackOf(0, 7), 1);
        y.read(0, 98);
        Due.passDays(y, 7);
        Due.due("only the last reading counts", y.stackOf(0, 7), 1);
        Due.finish();
    }
}
