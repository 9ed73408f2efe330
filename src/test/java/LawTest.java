/** Promise 14: law. */
public final class LawTest {
    public static void main(String[] args) {
        numbers();
        tape();
        texts();
        statements();
        fullTape();
        Due.finish();
    }

    private static void numbers() {
        PeatBog x = new PeatBog();
        Due.due("law(-1)", x.law(-1), -2);
        Due.due("law(1)", x.law(1), -2);
        Due.due("law(least)", x.law(Integer.MIN_VALUE), -2);
        Due.due("law(greatest)", x.law(Integer.MAX_VALUE), -2);
        for (int i = 0; i < 8; i++) {
            Due.due("a fault takes no number", Due.enact(x, "limit 9;limit"), PeatBog.NONE);
            Due.due("count(11)", x.count(11), i);
            Due.due("law " + i, Due.enact(x, "limit 9;limit " + i + ";"), i);
            Due.due("tells(0, 0)", x.tells(0, 0), i);
            Due.due("tells(0, 2)", x.tells(0, 2), i);
            Due.due("count(11)", x.count(11), i + 1);
        }
    }

    private static void tape() {
        PeatBog x = new PeatBog();
        for (int i = 0; i < 8; i++) {
            Due.enact(x, "depth " + i + ";");
        }
        Due.feedBytes(x, Due.bytesOf("depth 99;?"));
        Due.due("the ninth", x.law(9), -3);
        Due.due("the ninth with a fault", x.law(10), -3);
        Due.due("too many bytes first", x.law(21), -2);
        Due.due("law(-1)", x.law(-1), -2);
        Due.due("count(12) untouched", x.count(12), 20);
        Due.due("fault() untouched", x.fault(), PeatBog.NONE);
        Due.due("tells(0, 1) untouched", x.tells(0, 1), 7);

        PeatBog y = new PeatBog();
        Due.feedBytes(y, Due.bytesOf("limit 123;"));
        Due.due("law(21)", y.law(21), -2);
        Due.due("count(12) untouched", y.count(12), 20);
        Due.due("only the first n bytes", y.law(9), PeatBog.NONE);
        Due.due("the tape is empty", y.count(12), 0);
        Due.due("law(1)", y.law(1), -2);
        Due.feedBytes(y, Due.bytesOf("limit 123;limit 5;"));
        Due.due("law(10)", y.law(10), 0);
        Due.due("tells(0, 0)", y.tells(0, 0), 123);
        Due.due("the tape is empty", y.count(12), 0);
    }

    private static void texts() {
        String[] good = {"", "  \n ", "limit 0;", "limit0;", "limit\n0\n;\n", "limit 9999;", "limit 0007;",
            "depth 1;", "close 0 to 15 from 0 to 364;", "close0to15from0to364;", "close 9999 to 0 from 9999 to 9999;",
            "if heat<1 then turn;", "if heat<1then turn;", "if tons=1 and weeks>2 then keep;",
            "if heat<1and tons<1and weeks<1then send;limit 3;if tons>5 then keep;"};
        for (String text : good) {
            Due.due("law of '" + text + "'", Due.enact(new PeatBog(), text), 0);
        }
        String[] bad = {";", "limit", "limit ;", "limit 5", "limit 5;;", "limit 12345;", "limit 5 5;", "limit -5;",
            "Limit 5;", "limits 5;", "lim it 5;", "li\tmit 5;", "depth to;", "close 1 2 from 3 to 4;",
            "close 1 to 2 from 3;", "close 1 to 2;", "if then turn;", "if heat then turn;", "if heat < then turn;",
            "if heat 5 then turn;", "if heat <> 5 then turn;", "if heat <= 5 then turn;", "if 5 < heat then turn;",
            "if heat < 5 turn;", "if heat < 5 and then turn;", "if heat < 5 then;", "if heat < 5 then turn",
            "if heat < 5 or tons < 5 then turn;", "if heat < 5 then burn;", "if heat ; 5 then turn;",
            "ifheat < 5 then turn;", "if heat < 5 thenturn;", "limit 5,", "limit 5\r;"};
        for (String text : bad) {
            Due.due("law of '" + text + "'", Due.enact(new PeatBog(), text), PeatBog.NONE);
        }
    }

    private static void statements() {
        StringBuilder sixteen = new StringBuilder();
        for (int i = 0; i < 16; i++) {
            sixteen.append("close ").append(i).append(" to ").append(i).append(" from 0 to 0;");
        }
        PeatBog x = new PeatBog();
        Due.due("sixteen closings", Due.enact(x, sixteen.toString()), 0);
        for (int b = 0; b < 16; b++) {
            Due.due("tells(0, " + (10 + b) + ")", x.tells(0, 10 + b), 1);
        }
        Due.due("seventeen", Due.enact(x, sixteen + "limit 5;"), PeatBog.NONE);
        Due.due("sixteen and blanks", Due.enact(x, sixteen + " \n "), 1);

        StringBuilder rules = new StringBuilder();
        for (int i = 0; i < 15; i++) {
            rules.append("if heat=").append(i).append(" then send;");
        }
        PeatBog y = new PeatBog();
        y.stack();
        Due.bring(y, 0, 1, 0);
        y.read(0, 50);
        Due.due("sixteen rules", Due.enact(y, rules + "if heat=50 and tons=10 and weeks=1 then turn;"), 0);
        Due.passDays(y, 7);
        Due.due("the sixteenth acts", y.stackOf(0, 7), 1);
        y.read(0, 14);
        Due.passDays(y, 7);
        Due.due("the fifteenth acts", y.stackOf(0, 8), 1);

        // Nothing of a text with a fault stays behind in the next one.
        PeatBog z = new PeatBog();
        Due.enact(z, "limit 1;depth 2;close 0 to 15 from 0 to 364;if tons>0 then send;?");
        Due.due("law", Due.enact(z, ""), 0);
        Due.due("tells(0, 0)", z.tells(0, 0), 550);
        Due.due("tells(0, 1)", z.tells(0, 1), 0);
        Due.due("tells(0, 10)", z.tells(0, 10), 0);
        z.stack();
        Due.bring(z, 0, 1, 0);
        Due.passDays(z, 7);
        Due.due("stackOf(0, 8)", z.stackOf(0, 8), 0);
    }

    private static void fullTape() {
        StringBuilder text = new StringBuilder();
        for (int i = 0; i < 16; i++) {
            text.append("if heat<1 and tons<1then keep;");
        }
        while (text.length() < 500) {
            text.insert(2, ' ');
        }
        PeatBog x = new PeatBog();
        Due.due("feed", Due.feedBytes(x, Due.bytesOf(text.toString())), 500);
        Due.due("law(500)", x.law(500), 0);
        Due.feedBytes(x, Due.bytesOf("<".repeat(500)));
        Due.due("law(500) of signs", x.law(500), PeatBog.NONE);
        Due.due("fault()", x.fault(), 0);
        Due.feedBytes(x, Due.bytesOf(" ".repeat(500)));
        Due.due("law(500) of blanks", x.law(500), 1);
    }
}
