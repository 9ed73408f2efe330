import java.lang.reflect.Method;
import java.util.HashMap;
import java.util.Map;
import java.util.Random;

/** Random runs of 512 calls at most: each answer is PlainBog's, no call throws, and no peat is lost or made. */
public final class RandomRunsTest {
    private static final int[] EDGES = {Integer.MIN_VALUE, -3, -2, -1, 0, 1, 9, 10, 11, 15, 16, 17, 20, 21, 50, 51, 100, 101,
        500, 501, 900, 901, 1000, 1001, 3000, 3001, Integer.MAX_VALUE};
    private static final String[] FAULTS = {"limit 700;;", "if weeks<9", "limit 1;".repeat(17),
        "if tons=10 and tons=10 and tons=10 and tons=10 then keep;"};
    private static final String[] BLANKS = {" ", " ", " ", "\n", " \n", "  "};
    private static final int MOST_CALLS = 512;
    private static final int CALLS_OF_STEPS = 270;
    private static final Map<String, Method> OURS = methodsOf(PeatBog.class);
    private static final Map<String, Method> PLAIN = methodsOf(PlainBog.class);

    private final Random random;
    private final PeatBog x = new PeatBog();
    private final PlainBog plain = new PlainBog();
    private final StringBuilder past = new StringBuilder();
    private int calls = 0;
    private long milled = 0;

    private RandomRunsTest(int seed) {
        random = new Random(seed);
    }

    public static void main(String[] args) {
        for (int seed = 0; seed < 800; seed++) {
            RandomRunsTest run = new RandomRunsTest(seed);
            while (run.calls < CALLS_OF_STEPS) {
                run.step(seed % 4);
            }
            run.balance();
            Due.due("calls of a run, at most 512", run.calls <= MOST_CALLS, true);
        }
        Due.finish();
    }

    private static Map<String, Method> methodsOf(Class<?> c) {
        Map<String, Method> found = new HashMap<>();
        for (Method m : c.getDeclaredMethods()) {
            m.setAccessible(true);
            found.put(m.getName() + m.getParameterCount(), m);
        }
        return found;
    }

    private static int answer(Map<String, Method> methods, Object object, String name, Object[] args) {
        try {
            Object answer = methods.get(name + args.length).invoke(object, args);
            return answer instanceof Boolean is ? is ? 1 : 0 : (Integer) answer;
        } catch (ReflectiveOperationException e) {
            // An answer that no call gives, so that what was thrown is told with its call.
            System.out.println(name + " threw " + e.getCause());
            return Integer.MIN_VALUE;
        }
    }

    private int ask(String name, Integer... args) {
        calls++;
        int want = answer(PLAIN, plain, name, args);
        int got = answer(OURS, x, name, args);
        past.append(name).append(java.util.Arrays.toString(args)).append(' ');
        Due.due(got == want ? name : past.toString(), got, want);
        return got;
    }

    private int any(int bound) {
        return random.nextInt(30) == 0 ? EDGES[random.nextInt(EDGES.length)] : random.nextInt(bound);
    }

    /** Some kinds of run let the stacks wait so long that they burn, or have many laws. */
    private void step(int kind) {
        int bay = any(16);
        switch (random.nextInt(kind == 1 ? 26 : 17)) {
            case 0: ask("depth", bay, any(3001)); break;
            case 1: case 2: mill(bay); break;
            case 3: ask("ridge", bay); break;
            case 4: case 5: case 6: bring(bay); break;
            case 7: if (random.nextInt(3) == 0) ask("stack"); break;
            case 8: ask("probe", bay, any(901)); break;
            case 9: ask("track", bay); break;
            case 10: ask("want", any(kind == 1 ? 3 : 60)); break;
            case 11: ask("read", any(4), any(101)); break;
            case 12: if (kind != 3 || random.nextInt(4) == 0) law(); break;
            case 13: question(); break;
            case 14: ask("stackOf", any(4), any(9)); break;
            default: ask("day", any(kind == 2 ? 11 : 3), any(11), random.nextInt(3) == 0 ? any(51) : 0);
        }
    }

    private void mill(int bay) {
        int much = any(21);
        milled += ask("mill", bay, much) == 0 ? 10L * much : 0;
    }

    private void bring(int bay) {
        if (random.nextInt(4) > 0) {
            ask("track", bay);
        }
        int probes = 2 + random.nextInt(3);
        for (int i = 0; i < probes; i++) {
            ask("probe", bay, random.nextInt(random.nextInt(4) == 0 ? 901 : 500));
        }
        ask("bars", bay);
        ask("gather", bay, any(3));
    }

    private void law() {
        byte[] bytes = Due.bytesOf(random.nextInt(8) == 0 ? one(FAULTS) : text());
        if (bytes.length > 0 && random.nextInt(8) == 0) {
            bytes[random.nextInt(bytes.length)] = (byte) random.nextInt(256);
        }
        for (int from = 0; from < bytes.length; from += 20) {
            Integer[] n = new Integer[] {0, 0, 0, 0, 0};
            for (int i = 0; i < 20; i++) {
                n[i / 4] = n[i / 4] << 8 | (from + i < bytes.length ? bytes[from + i] & 255 : 32);
            }
            ask("feed", n);
        }
        if (random.nextInt(9) > 0) {
            ask("law", random.nextInt(6) == 0 ? any(501) : ask("count", 12));
            ask("fault");
        }
    }

    private String text() {
        StringBuilder text = new StringBuilder();
        for (int statements = random.nextInt(5); statements > 0; statements--) {
            text.append(statement().replace(" ", one(BLANKS)));
        }
        return text.toString();
    }

    private String statement() {
        switch (random.nextInt(7)) {
            case 0: return "limit " + random.nextInt(1200) + " ;";
            case 1: return "depth " + (random.nextInt(4) == 0 ? random.nextInt(3001) : 960 + random.nextInt(41)) + ";";
            case 2: return "close " + random.nextInt(17) + " to " + random.nextInt(17)
                + " from" + random.nextInt(60) + " to " + random.nextInt(random.nextInt(2) == 0 ? 10 : 400) + ";";
            default: return "if " + tests() + " then " + one("turn", "send", "keep", "turn") + ";";
        }
    }

    private String tests() {
        StringBuilder tests = new StringBuilder();
        for (int more = 1 + random.nextInt(3); more > 0; more--) {
            String what = one("heat", "weeks", "tons");
            int number = random.nextInt(what.equals("heat") ? 101 : what.equals("weeks") ? 4 : 400);
            tests.append(what).append(one("<", " > ", ">", "=", "< ")).append(number).append(more > 1 ? " and " : "");
        }
        return tests.toString();
    }

    private String one(String... of) {
        return of[random.nextInt(of.length)];
    }

    private void question() {
        switch (random.nextInt(8)) {
            case 0: ask("tells", any(1001), any(27)); break;
            case 1: ask("tells", any(60), any(4)); break;
            case 2: case 3: ask("best", any(4), any(4)); break;
            case 4: ask("best", 1 + random.nextInt(3), PeatBog.NONE); break;
            case 5: ask("bay", any(16), any(8)); break;
            case 6: ask("lasts"); break;
            default: ask("count", any(14));
        }
    }

    /** Asks for all that can be told, so that nothing that went astray on the way stays unseen. */
    private void balance() {
        long lying = 0;
        long gathered = 0;
        for (int b = 0; b < 16; b++) {
            for (int what : new int[] {1, 4, 5}) {
                ask("bay", b, what);
            }
            lying += ask("bay", b, 2);
            gathered += ask("bay", b, 6);
            int wet = ask("bay", b, 3);
            Due.due("wet within its bounds", wet >= 0 && wet <= 900, true);
            Due.due("depth not below nothing", ask("bay", b, 0) >= 0, true);
        }
        Due.due("what was milled lies or was gathered", lying + gathered, milled);
        int held = ask("count", 9) + ask("count", 4);
        Due.due("what was gathered is held, taken or ash", held + ask("count", 5) + ask("count", 8), gathered);
        for (int what : new int[] {0, 1, 2, 3, 6, 7, 11, 12}) {
            ask("count", what);
        }
        for (int s = ask("count", 10) - 1; s >= 0; s--) {
            for (int what = 0; what <= 8; what++) {
                ask("stackOf", s, what);
            }
        }
    }
}
