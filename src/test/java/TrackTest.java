/** Promise 9: track. */
public final class TrackTest {
    public static void main(String[] args) {
        PeatBog x = new PeatBog();
        Due.due("track(0)", x.track(0), 0);
        Due.due("track(15)", x.track(15), 15);
        Due.due("count(1)", x.count(1), 15);
        Due.due("track(4)", x.track(4), 11);
        Due.due("track(-1)", x.track(-1), PeatBog.NONE);
        Due.due("track(16)", x.track(16), PeatBog.NONE);
        Due.due("track(least)", x.track(Integer.MIN_VALUE), PeatBog.NONE);
        Due.due("track(greatest)", x.track(Integer.MAX_VALUE), PeatBog.NONE);
        Due.due("count(1) untouched", x.count(1), 4);
        Due.due("count(2)", x.count(2), 26);
        x.day(0, 0, 0);
        Due.due("count(1) the next day", x.count(1), 4);
        Due.finish();
    }
}
