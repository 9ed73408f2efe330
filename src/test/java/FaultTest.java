import java.util.Random;
import java.util.regex.Matcher;
import java.util.regex.Pattern;

/** Promise 15: fault. */
public final class FaultTest {
    public static void main(String[] args) {
        latest();
        places();
        tooMany();
        prefixes();
        randomTexts();
        Due.finish();
    }

    private static void latest() {
        PeatBog x = new PeatBog();
        Due.due("before any law", x.fault(), PeatBog.NONE);
        Due.enact(x, "limit x;");
        Due.due("fault()", x.fault(), 6);
        Due.due("asked twice", x.fault(), 6);
        x.law(-1);
        x.law(1);
        Due.due("-2 leaves it", x.fault(), 6);
        Due.enact(x, "limit 5;");
        Due.due("none in the latest", x.fault(), PeatBog.NONE);
        x.law(-1);
        Due.due("-2 leaves it", x.fault(), PeatBog.NONE);
        for (int i = 1; i < 8; i++) {
            Due.enact(x, "");
        }
        Due.enact(x, "?");
        Due.due("-3 leaves it", x.fault(), PeatBog.NONE);
    }

    private static void dueFault(String text, int place) {
        PeatBog x = new PeatBog();
        Due.enact(x, text);
        Due.due("fault() of '" + text + "'", x.fault(), place);
    }

    private static void places() {
        dueFault("", PeatBog.NONE);
        dueFault("limit", 5);
        dueFault("limit  ", 7);
        dueFault("limit \n?", 7);
        dueFault("  limix 5;", 2);
        dueFault("limit 12345;", 6);
        dueFault("limit 1234x;", 10);
        dueFault("limit 5;;", 8);
        dueFault("if heat <= 5 then turn;", 9);
        dueFault("if heat<5and tons<5thenturn;", 19);
        dueFault("A", 0);
        dueFault(new String(new char[] {255}), 0);
        dueFault(new String(new char[] {0}), 0);
        dueFault("limit\t5;", 5);
        dueFault("limit\r5;", 5);
        dueFault("limit 5;\n\n  5", 12);
        dueFault("if heat > 5 then turn;keep;", 22);
        dueFault("close 1 to 2 from 3 to 4 5;", 25);
        dueFault("limit`5;", 5);
        dueFault("limit{5;", 5);
        dueFault("limit/5;", 5);
        dueFault("limitz 5;", 0);
        dueFault("alimit 5;", 0);
        dueFault("limit:5;", 5);
    }

    private static void tooMany() {
        String three = "if heat>1 and tons>1 and weeks>1 ";
        dueFault(three + "and  heat>1 then turn;", three.length() + 5);
        dueFault(three + "and", three.length() + 3);
        dueFault(three + "and ", three.length() + 4);
        dueFault(three + "and ; then turn;", three.length() + 4);
        dueFault(three + "then turn;", PeatBog.NONE);
        String sixteen = "limit 1;".repeat(16);
        dueFault(sixteen, PeatBog.NONE);
        dueFault(sixteen + "  limit 1;", sixteen.length() + 2);
        dueFault(sixteen + " ?", sixteen.length() + 1);
        dueFault(sixteen + "if", sixteen.length());
        dueFault("limit 1;".repeat(15) + "limit", 15 * 8 + 5);
    }

    /** Of a text without fault, each part from its beginning wants more or is one too. */
    private static void prefixes() {
        String text = "limit 12;close 1 to 2 from 3 to 4;if heat > 5 and tons = 7 then turn;";
        for (int n = 0; n <= text.length(); n++) {
            int want = n == 0 || text.charAt(n - 1) == ';' ? PeatBog.NONE : faultOf(text.substring(0, n));
            dueFault(text.substring(0, n), want);
        }
    }

    private static void randomTexts() {
        Random random = new Random(7);
        String[] parts = {"limit", "depth", "close", "to", "from", "if", "and", "then", "turn", "send", "keep", "heat",
            "weeks", "tons", "<", ">", "=", ";", "5", "12", "9999", "12345", "x", "?", " ", "\n"};
        for (int i = 0; i < 4000; i++) {
            StringBuilder text = new StringBuilder();
            int statements = random.nextInt(19);
            for (int s = 0; s < statements; s++) {
                text.append(statement(random));
            }
            if (random.nextInt(3) > 0 && text.length() > 0) {
                int at = random.nextInt(text.length());
                String part = parts[random.nextInt(parts.length)];
                text.replace(at, Math.min(text.length(), at + random.nextInt(4)), part);
            }
            text.setLength(Math.min(text.length(), 500));
            dueFault(text.toString(), faultOf(text.toString()));
        }
    }

    private static String statement(Random random) {
        int n = random.nextInt(10000);
        switch (random.nextInt(5)) {
            case 0: return "limit " + n + ";";
            case 1: return "depth" + n + " ;\n";
            case 2: return "close " + n % 20 + " to " + n % 17 + " from " + n % 400 + " to " + n % 377 + ";";
            default:
                StringBuilder rule = new StringBuilder("if");
                int tests = 1 + random.nextInt(random.nextInt(8) == 0 ? 4 : 3);
                for (int t = 0; t < tests; t++) {
                    rule.append(t == 0 ? " " : " and ").append(new String[] {"heat", "weeks", "tons"}[random.nextInt(3)]);
                    rule.append("<>=".charAt(random.nextInt(3))).append(n % 77);
                }
                return rule + " then " + new String[] {"turn", "send", "keep"}[random.nextInt(3)] + ";";
        }
    }

    /** The place of the fault found in another way: by the pattern of what may follow so far. */
    static int faultOf(String text) {
        Matcher tokens = Pattern.compile("[a-z]+|[0-9]+|[^ \\n]", Pattern.DOTALL).matcher(text);
        String test = "(heat|weeks|tons) [<>=] N ";
        String statement = "(limit N ; |depth N ; |close N to N from N to N ; |if " + test + "(and " + test + "){0,2}then "
            + "(turn|send|keep) ; )";
        Pattern whole = Pattern.compile(statement + "{0,16}");
        // The fourth test is the fault, so a third "and" may still come.
        String open = "(if " + test + "(and " + test + "){2}and )";
        Pattern withOpen = Pattern.compile(statement + "{0,15}" + open);
        StringBuilder sofar = new StringBuilder();
        while (tokens.find()) {
            String token = tokens.group();
            boolean known = token.matches("[a-z]+|[<>=;]");
            sofar.append(token.matches("[0-9]{1,4}") ? "N" : known ? token : "!").append(' ');
            Matcher m = whole.matcher(sofar);
            boolean goesOn = m.matches() || m.hitEnd();
            if (!goesOn && !withOpen.matcher(sofar).matches()) {
                return tokens.start();
            }
        }
        return whole.matcher(sofar).matches() ? PeatBog.NONE : text.length();
    }
}
