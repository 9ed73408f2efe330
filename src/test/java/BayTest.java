/** Promise 17: bay. */
public final class BayTest {
    public static void main(String[] args) {
        PeatBog x = new PeatBog();
        x.stack();
        x.depth(7, 500);
        x.mill(7, 12);
        x.day(1, 0, 0);
        x.probe(7, 300);
        x.probe(7, 500);
        x.probe(7, 400);
        dueBay(x, 7, new int[] {488, 1, 120, 788, 3, 500, 0});
        x.ridge(7);
        dueBay(x, 7, new int[] {488, 2, 120, 788, 3, 500, 0});
        x.track(8);
        x.gather(7, 0);
        dueBay(x, 7, new int[] {488, 0, 0, 0, 3, 500, 120});
        x.day(0, 0, 9);
        dueBay(x, 7, new int[] {488, 0, 0, 0, 0, PeatBog.NONE, 120});
        x.mill(7, 1);
        dueBay(x, 7, new int[] {487, 1, 10, 800, 0, PeatBog.NONE, 120});
        for (int i = 0; i < 3; i++) {
            x.probe(7, 0);
        }
        dueBay(x, 7, new int[] {487, 1, 10, 800, 3, 0, 120});
        x.gather(7, 0);
        dueBay(x, 7, new int[] {487, 0, 0, 0, 3, 0, 130});
        dueBay(x, 6, new int[] {1000, 0, 0, 0, 0, PeatBog.NONE, 0});

        int[] wrong = {-1, 7, Integer.MIN_VALUE, Integer.MAX_VALUE};
        for (int what : wrong) {
            Due.due("bay(7, " + what + ")", x.bay(7, what), PeatBog.NONE);
        }
        int[] wrongBays = {-1, 16, Integer.MIN_VALUE, Integer.MAX_VALUE};
        for (int bay : wrongBays) {
            for (int what = -1; what < 8; what++) {
                Due.due("bay(" + bay + ", " + what + ")", x.bay(bay, what), PeatBog.NONE);
            }
        }
        Due.finish();
    }

    private static void dueBay(PeatBog x, int bay, int[] want) {
        for (int what = 0; what < want.length; what++) {
            Due.due("bay(" + bay + ", " + what + ")", x.bay(bay, what), want[what]);
        }
    }
}
