/** Promise 7: bars. */
public final class BarsTest {
    public static void main(String[] args) {
        order();
        nearness();
        limits();
        Due.finish();
    }

    private static void order() {
        PeatBog x = new PeatBog();
        Due.due("bars(-1)", x.bars(-1), 1);
        Due.due("bars(16)", x.bars(16), 1);
        Due.due("bars(least)", x.bars(Integer.MIN_VALUE), 1);
        Due.due("bars(greatest)", x.bars(Integer.MAX_VALUE), 1);
        Due.enact(x, "close 0 to 15 from 1 to 1;limit 400;");
        Due.due("nothing lies", x.bars(5), 1);
        x.mill(5, 5);
        x.day(0, 0, 0);
        Due.due("nothing lies, ahead of closed", x.bars(6), 1);
        Due.due("closed, ahead of the track", x.bars(5), 2);
        x.day(0, 0, 0);
        Due.due("the track, ahead of the probes", x.bars(5), 3);
        x.track(5);
        Due.due("no probes", x.bars(5), 4);
        x.probe(5, 900);
        x.probe(5, 400);
        Due.due("two probes, ahead of the limit", x.bars(5), 4);
        x.probe(5, 0);
        Due.due("one above the limit", x.bars(5), 5);
        Due.due("law", Due.enact(x, "limit 900;"), 1);
        Due.due("none above the new limit", x.bars(5), 0);
        x.day(0, 0, 0);
        Due.due("the probes are gone", x.bars(5), 4);
    }

    private static void nearness() {
        PeatBog x = new PeatBog();
        for (int b = 0; b < 16; b++) {
            Due.ready(x, b, 1);
        }
        for (int at = 0; at < 16; at++) {
            x.track(at);
            for (int b = 0; b < 16; b++) {
                boolean near = b == at || b == at - 1 || b == at + 1;
                Due.due("bars(" + b + ") with the track at " + at, x.bars(b), near ? 0 : 3);
            }
        }
    }

    private static void limits() {
        PeatBog x = new PeatBog();
        Due.ready(x, 0, 1);
        x.probe(0, 550);
        Due.due("at the usual limit", x.bars(0), 0);
        x.probe(0, 551);
        Due.due("above the usual limit", x.bars(0), 5);
        x.probe(0, 1);
        Due.due("a drier one doesn't help", x.bars(0), 5);
        Due.enact(x, "limit 550;limit 551;");
        Due.due("the last limit counts", x.bars(0), 0);
        x.ridge(0);
        Due.due("ridged", x.bars(0), 0);
        Due.due("bars changes nothing", x.bay(0, 4), 6);
    }
}
