/** Promise 13: feed. */
public final class FeedTest {
    public static void main(String[] args) {
        PeatBog x = new PeatBog();
        for (int i = 1; i <= 25; i++) {
            Due.due("feed " + i, x.feed(0, -1, Integer.MIN_VALUE, Integer.MAX_VALUE, i), 20 * i);
        }
        Due.due("the 26th", x.feed(0, 0, 0, 0, 0), PeatBog.NONE);
        Due.due("count(12)", x.count(12), 500);
        Due.due("law(0)", x.law(0), 0);
        Due.due("count(12)", x.count(12), 0);
        Due.due("feed again", x.feed(0, 0, 0, 0, 0), 20);

        // "limi", "t 77", ";dep", "th 8", "0;  ": of each number the highest byte first.
        PeatBog y = new PeatBog();
        Due.due("feed", y.feed(0x6c696d69, 0x74203737, 0x3b646570, 0x74682038, 0x303b2020), 20);
        Due.due("law(20)", y.law(20), 0);
        Due.due("tells(0, 0)", y.tells(0, 0), 77);
        Due.due("tells(0, 1)", y.tells(0, 1), 80);

        // Later bytes come behind the earlier ones.
        PeatBog z = new PeatBog();
        z.feed(0x20202020, 0x20202020, 0x20202020, 0x20202020, 0x206c696d);
        Due.due("feed", z.feed(0x69742036, 0x35343b20, 0x20202020, 0x20202020, 0x20202020), 40);
        Due.due("law(27)", z.law(27), 0);
        Due.due("tells(0, 0)", z.tells(0, 0), 654);

        // Every byte of a number counts, whatever its sign.
        for (int place = 0; place < 20; place++) {
            byte[] bytes = Due.bytesOf("                    ");
            bytes[place] = (byte) 200;
            PeatBog w = new PeatBog();
            Due.feedBytes(w, bytes);
            Due.due("law(20) with a strange byte", w.law(20), PeatBog.NONE);
            Due.due("fault()", w.fault(), place);
        }
        Due.finish();
    }
}
