/** Promise 10: want. */
public final class WantTest {
    public static void main(String[] args) {
        PeatBog x = new PeatBog();
        Due.due("want(1000)", x.want(1000), true);
        Due.due("count(3)", x.count(3), 1000);
        Due.due("want(1001)", x.want(1001), false);
        Due.due("want(-1)", x.want(-1), false);
        Due.due("want(least)", x.want(Integer.MIN_VALUE), false);
        Due.due("count(3) untouched", x.count(3), 1000);
        Due.due("want(0)", x.want(0), true);
        Due.due("count(3)", x.count(3), 0);
        x.day(0, 0, 0);
        Due.due("nothing lacks", x.count(6), 0);
        x.want(7);
        x.day(0, 0, 0);
        x.day(0, 0, 0);
        Due.due("it stays wanted", x.count(6), 14);
        Due.finish();
    }
}
