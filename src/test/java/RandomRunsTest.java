import java.util.Random;

/** Long random runs: no call throws, no peat is lost or made, answers stay within their bounds. */
public final class RandomRunsTest {
    private static final int[] EDGES = {Integer.MIN_VALUE, -2, -1, 16, 17, 1001, Integer.MAX_VALUE};

    public static void main(String[] args) {
        for (int run = 0; run < 400; run++) {
            oneRun(new Random(run));
        }
        Due.finish();
    }

    private static void oneRun(Random random) {
        PeatBog x = new PeatBog();
        long milled = 0;
        for (int call = 0; call < 512; call++) {
            int bay = edged(random, 16);
            int stack = edged(random, 3);
            switch (random.nextInt(16)) {
                case 0: x.depth(bay, edged(random, 3001)); break;
                case 1: case 2:
                    int much = edged(random, 21);
                    milled += x.mill(bay, much) == 0 ? 10L * much : 0;
                    break;
                case 3: x.ridge(bay); break;
                case 4: case 5: case 6: probes(x, random); break;
                case 7: if (random.nextInt(8) == 0) x.stack(); break;
                case 8: case 9: dueGather(x, bay, stack); break;
                case 10: x.track(edged(random, 16)); break;
                case 11: x.want(edged(random, 60)); break;
                case 12: x.read(stack, edged(random, 101)); break;
                case 13: x.day(edged(random, 11), edged(random, 11), edged(random, 51)); break;
                case 14: laws(x, random); break;
                default: asks(x, random);
            }
        }
        dueBalance(x, milled);
    }

    private static void probes(PeatBog x, Random random) {
        int bay = edged(random, 16);
        for (int i = 0; i < 3; i++) {
            x.probe(bay, edged(random, 600));
        }
    }

    private static void dueGather(PeatBog x, int bay, int stack) {
        boolean takes = x.bars(bay) == 0 && x.stackOf(stack, 4) == 0 && x.stackOf(stack, 8) == 0;
        int weight = x.bay(bay, 2);
        Due.due("gather(" + bay + ", " + stack + ")", x.gather(bay, stack), takes ? weight : PeatBog.NONE);
    }

    private static void laws(PeatBog x, Random random) {
        String[] texts = {"limit 300;", "if heat > 20 then turn;", "if tons > 100 then send;", "depth 980;",
            "close 3 to 9 from 2 to 30;", "if weeks > 1 and tons < 50 then keep;"};
        Due.feedBytes(x, Due.bytesOf(texts[random.nextInt(texts.length)]));
        if (random.nextInt(3) == 0) {
            x.feed(random.nextInt(), random.nextInt(), random.nextInt(), random.nextInt(), random.nextInt());
        }
        x.law(random.nextInt(12) == 0 ? edged(random, 501) : x.count(12));
    }

    private static void asks(PeatBog x, Random random) {
        x.fault();
        x.lasts();
        x.tells(edged(random, 1001), edged(random, 27));
        x.best(edged(random, 5), edged(random, 4));
        x.stackOf(edged(random, 11), edged(random, 10));
        x.bay(edged(random, 16), edged(random, 8));
        x.count(edged(random, 14));
    }

    private static int edged(Random random, int bound) {
        return random.nextInt(25) == 0 ? EDGES[random.nextInt(EDGES.length)] : random.nextInt(bound);
    }

    private static void dueBalance(PeatBog x, long milled) {
        long lying = 0;
        long gathered = 0;
        for (int b = 0; b < 16; b++) {
            lying += x.bay(b, 2);
            gathered += x.bay(b, 6);
            Due.due("wet within its bounds", x.bay(b, 3) >= 0 && x.bay(b, 3) <= 900, true);
            Due.due("depth not below nothing", x.bay(b, 0) >= 0, true);
        }
        Due.due("what was milled lies or was gathered", lying + gathered, milled);
        long held = x.count(9) + x.count(4);
        Due.due("what was gathered is held, taken or ash", held + x.count(5) + x.count(8), gathered);
        for (int s = 0; s < x.count(10); s++) {
            Due.due("heat within its bounds", x.stackOf(s, 2) >= 10 && x.stackOf(s, 2) <= 100, true);
            Due.due("burns with 100 alone", x.stackOf(s, 4), x.stackOf(s, 2) == 100 ? 1 : 0);
            Due.due("since when it burns", x.stackOf(s, 6) != PeatBog.NONE, x.stackOf(s, 4) == 1);
        }
    }
}
