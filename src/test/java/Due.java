import java.nio.charset.StandardCharsets;

/** What the tests share: answers compared with what is due, and short ways to common states. */
final class Due {
    private static int asked = 0;
    private static int wrong = 0;
    private static String sentence = "";

    private Due() {
    }

    /** Names the words of the document that the answers to come are about. */
    static void of(String words) {
        sentence = "[" + words + "] ";
    }

    static void due(String call, long got, long want) {
        asked++;
        if (got != want) {
            wrong++;
            System.out.println(sentence + call + " answered " + got + ", due is " + want);
        }
    }

    static void due(String call, boolean got, boolean want) {
        due(call, got ? 1 : 0, want ? 1 : 0);
    }

    static void finish() {
        System.out.println(asked + " answers, " + wrong + " not as due");
        if (wrong != 0 || asked == 0) {
            System.exit(1);
        }
    }

    static byte[] bytesOf(String text) {
        return text.getBytes(StandardCharsets.ISO_8859_1);
    }

    /** Feeds the bytes with blanks behind them up to a whole feed; the answer is the last feed's. */
    static int feedBytes(PeatBog x, byte[] bytes) {
        int answer = x.count(12);
        for (int from = 0; from < bytes.length; from += 20) {
            int[] n = new int[5];
            for (int i = 0; i < 20; i++) {
                int b = from + i < bytes.length ? bytes[from + i] & 255 : 32;
                n[i / 4] = n[i / 4] << 8 | b;
            }
            answer = x.feed(n[0], n[1], n[2], n[3], n[4]);
        }
        return answer;
    }

    static int enact(PeatBog x, String text) {
        byte[] bytes = bytesOf(text);
        feedBytes(x, bytes);
        return x.law(bytes.length);
    }

    static void passDays(PeatBog x, int many) {
        for (int i = 0; i < many; i++) {
            x.day(0, 0, 0);
        }
    }

    static void probes(PeatBog x, int bay, int many, int wet) {
        for (int i = 0; i < many; i++) {
            x.probe(bay, wet);
        }
    }

    /** Mills a bay and draws three probes of it that any usual law lets pass. */
    static void ready(PeatBog x, int bay, int much) {
        due("mill(" + bay + ", " + much + ")", x.mill(bay, much), 0);
        for (int i = 1; i <= 3; i++) {
            due("probe(" + bay + ", 100)", x.probe(bay, 100), i);
        }
    }

    /** Brings peat of one bay to a stack, moving the track there. */
    static void bring(PeatBog x, int bay, int much, int stack) {
        x.track(bay);
        ready(x, bay, much);
        due("gather(" + bay + ", " + stack + ")", x.gather(bay, stack), 10 * much);
    }
}
