/** The bounds of THE LAW's text, of the tape it comes from, and of when and where it holds. */
public final class LawBoundsTest {
    private static final int NONE = PeatBog.NONE;

    public static void main(String[] args) {
        tape();
        bytesTaken();
        bytesBehind();
        lawCount();
        digits();
        letters();
        blanks();
        longestTokens();
        everyToken();
        moreMustCome();
        statements();
        tests();
        emptyTexts();
        inForceFromToday();
        lastOfSeveral();
        closedBays();
        closedDays();
        closedBeyondTheYear();
        someClosing();
        latestFault();
        Due.finish();
    }

    private static void dueFault(String text, int place) {
        PeatBog x = new PeatBog();
        Due.due("law of '" + text + "'", Due.enact(x, text), place == NONE ? 0 : NONE);
        Due.due("fault() of '" + text + "'", x.fault(), place);
        Due.due("count(11)", x.count(11), place == NONE ? 1 : 0);
        Due.due("the tape is empty", x.count(12), 0);
    }

    private static void tape() {
        Due.of("Twenty bytes come behind those on the tape");
        PeatBog x = new PeatBog();
        for (int i = 1; i <= 24; i++) {
            Due.due("feed " + i, x.feed(0x20202020, 0x20202020, 0x20202020, 0x20202020, 0x20202020), 20 * i);
        }
        Due.due("up to 500", x.feed(0x20202020, 0x206c696d, 0x69742039, 0x393b2020, 0x20202020), 500);
        Due.due("beyond 500", x.feed(0, 0, 0, 0, 0), NONE);
        Due.due("count(12)", x.count(12), 500);
        Due.due("law(501)", x.law(501), -2);
        Due.due("law(500)", x.law(500), 0);
        Due.due("tells(0, 0)", x.tells(0, 0), 99);
        Due.due("count(12)", x.count(12), 0);
        Due.due("fed anew", x.feed(0, 0, 0, 0, 0), 20);
    }

    private static void bytesTaken() {
        Due.of("The first n bytes of the tape (which is empty then) are THE LAW from TODAY on");
        String text = "limit 12;depth 34;";
        int[] faults = {NONE, 0, 0, 0, 0, 5, 6, 7, 8, NONE, 9, 9, 9, 9, 14, 15, 16, 17, NONE, NONE, NONE};
        for (int n = -1; n <= 21; n++) {
            PeatBog x = new PeatBog();
            Due.feedBytes(x, Due.bytesOf(text));
            boolean is = n >= 0 && n <= 20;
            Due.due("law(" + n + ")", x.law(n), !is ? -2 : faults[n] == NONE ? 0 : NONE);
            Due.due("fault()", x.fault(), is ? faults[n] : NONE);
            Due.due("count(12)", x.count(12), is ? 0 : 20);
            boolean lawful = is && faults[n] == NONE;
            Due.due("limit of " + n, x.tells(0, 0), lawful && n >= 9 ? 12 : 550);
            Due.due("depth of " + n, x.tells(0, 1), lawful && n >= 18 ? 34 : 0);
            Due.due("number of " + n, x.tells(0, 2), lawful ? 0 : NONE);
        }
    }

    /** What stands behind the first n bytes never makes a token of them longer. */
    private static void bytesBehind() {
        Due.of("The first n bytes of the tape (which is empty then) are THE LAW from TODAY on");
        String text = "limit 12345;close 1 to 23456 from 3 to 4;if heatx<99999 and tons>1 thenturns;";
        String[] parts = {text, text.substring(12), text.substring(41), "if heat<12345", "depth 0;limits 5;",
            "limit 7;;", "close 1 tomb"};
        for (String part : parts) {
            for (int n = 0; n <= part.length(); n++) {
                PeatBog x = new PeatBog();
                Due.feedBytes(x, Due.bytesOf(part));
                int place = FaultTest.faultOf(part.substring(0, n));
                Due.due("law(" + n + ") of " + part, x.law(n), place == NONE ? 0 : NONE);
                Due.due("fault() of the first " + n + " of " + part, x.fault(), place);
            }
        }
        PeatBog x = new PeatBog();
        Due.feedBytes(x, Due.bytesOf("limit 12345;"));
        Due.due("four of five digits", x.law(10), NONE);
        Due.due("more must come", x.fault(), 10);
        Due.feedBytes(x, Due.bytesOf("limits 5;"));
        Due.due("five of six letters", x.law(5), NONE);
        Due.due("more must come", x.fault(), 5);
    }

    private static void lawCount() {
        Due.of("Taken (up to 8)");
        PeatBog x = new PeatBog();
        for (int l = 0; l < 8; l++) {
            Due.due("law " + l, Due.enact(x, "depth " + l + ";"), l);
            Due.due("count(11)", x.count(11), l + 1);
            Due.due("tells(0, 2)", x.tells(0, 2), l);
        }
        Due.due("the ninth", Due.enact(x, "depth 8;"), -3);
        Due.due("count(11)", x.count(11), 8);
        Due.due("tells(0, 1)", x.tells(0, 1), 7);
        Due.due("the tape is left", x.count(12), 20);
    }

    private static void digits() {
        Due.of("NUMBER: one to four digits.");
        String[] ahead = {"limit ", "depth ", "close ", "close 1 to ", "close 1 to 2 from ", "close 1 to 2 from 3 to ",
            "if heat < ", "if tons = 1 and weeks > "};
        String[] behind = {";", ";", " to 2 from 3 to 4;", " from 3 to 4;", " to 4;", ";", " then keep;", " then send;"};
        for (int i = 0; i < ahead.length; i++) {
            dueFault(ahead[i] + behind[i], ahead[i].length() + (behind[i].startsWith(" ") ? 1 : 0));
            for (String number : new String[] {"0", "9", "10", "999", "0000", "1000", "9999"}) {
                dueFault(ahead[i] + number + behind[i], NONE);
            }
            for (String number : new String[] {"00000", "10000", "00001", "99999999999999999999"}) {
                dueFault(ahead[i] + number + behind[i], ahead[i].length());
            }
        }
        PeatBog x = new PeatBog();
        Due.enact(x, "limit 9999;depth 0007;");
        Due.due("tells(0, 0)", x.tells(0, 0), 9999);
        Due.due("tells(0, 1)", x.tells(0, 1), 7);
        dueFault("limit 9 9;", 8);
    }

    private static void letters() {
        Due.of("words of letters a to z, digits, signs");
        // Beside a and z, 0 and 9 stand bytes that begin no token; no capital begins one either.
        for (int c : new int[] {'`', '{', '/', ':', 'A', 'Z', '@', '[', '_', '-', '+', '!', ',', '.', '?', 127, 128, 255, 0}) {
            dueStrange((char) c);
        }
        dueFault("Limit 5;", 0);
        dueFault("limiT 5;", 0);
        dueFault("limit 5; iF", 9);
    }

    private static void dueStrange(char c) {
        dueFault(c + "limit 5;", 0);
        dueFault("limit" + c + "5;", 5);
        dueFault("limit 5" + c + ";", 7);
        dueFault("limit 5;" + c, 8);
        dueFault("limit " + c, 6);
    }

    private static void blanks() {
        Due.of("between them blanks (bytes 32 and 10)");
        for (int c = 0; c < 256; c++) {
            boolean blank = c == 32 || c == 10;
            dueFault("limit" + (char) c + ";", blank ? 6 : c >= 'a' && c <= 'z' ? 0 : c >= '0' && c <= '9' ? NONE : 5);
            dueFault("limit 7" + (char) c + ";", blank || c >= '0' && c <= '9' ? NONE : c == ';' ? 8 : 7);
        }
        dueFault("\n \n limit\n\n \n5 \n;\n ", NONE);
        dueFault("limit5;depth6;close1to2from3to4;if heat<5and tons>6and weeks=7then keep;", NONE);
        dueFault("li mit 5;", 0);
        dueFault("limit 5 ;limit 1 2;", 17);
    }

    private static void longestTokens() {
        Due.of("Tokens as long as they go");
        dueFault("limitlimit 5;", 0);
        dueFault("limi 5;", 0);
        dueFault("limits 5;", 0);
        dueFault("ifheat<5 then turn;", 0);
        dueFault("if heatx<5 then turn;", 3);
        dueFault("if hea<5 then turn;", 3);
        dueFault("if heat<5 thenturn;", 10);
        dueFault("if heat<5andtons<5 then turn;", 9);
        dueFault("if heat<5 the turn;", 10);
        dueFault("if heat<5 then turns;", 15);
        dueFault("closeto 1 to 2 from 3 to 4;", 0);
        dueFault("close 1 tofrom 2 from 3 to 4;", 8);
        dueFault("close 1 t 2 from 3 to 4;", 8);
    }

    private static void everyToken() {
        Due.of("the place of the first byte of the first token (or byte that begins none) with which no such text goes on");
        String[] lines = {"limit 5 ;", "depth 5 ;", "close 1 to 2 from 3 to 4 ;",
            "if heat < 1 and weeks > 2 and tons = 3 then turn ;", "if tons < 1 then send ;", "if weeks = 1 then keep ;"};
        for (String line : lines) {
            String[] tokens = line.split(" ");
            for (int t = 0; t < tokens.length; t++) {
                String ahead = String.join(" ", java.util.Arrays.copyOf(tokens, t)) + (t == 0 ? "" : " ");
                for (String wrong : new String[] {"xyz", "?", "12345", tokens[t].equals("to") ? "from" : "to"}) {
                    dueFault("\n" + ahead + wrong + " ; limit ?", 1 + ahead.length());
                }
                if (t > 0) {
                    // Without this token the next one is the first that is wrong.
                    String behind = String.join(" ", java.util.Arrays.copyOfRange(tokens, t + 1, tokens.length));
                    dueFault(ahead + behind, ahead.length());
                }
            }
            dueFault(line + line, NONE);
        }
        dueFault("limit 5;;", 8);
        dueFault(";", 0);
        dueFault("5;", 0);
        dueFault("if heat <= 5 then turn;", 9);
        dueFault("if heat < 5 then keep and turn;", 22);
    }

    private static void moreMustCome() {
        Due.of("the text's length, if more must come");
        String[] lines = {"limit 5 ;", "depth 5 ;", "close 1 to 2 from 3 to 4 ;",
            "if heat < 1 and weeks > 2 and tons = 3 then turn ;"};
        for (String line : lines) {
            String[] tokens = line.split(" ");
            for (int t = 1; t < tokens.length; t++) {
                String ahead = String.join(" ", java.util.Arrays.copyOf(tokens, t));
                dueFault(ahead, ahead.length());
                dueFault(ahead + " ", ahead.length() + 1);
                dueFault("limit 1;" + ahead + "\n\n ", ahead.length() + 11);
            }
            dueFault(line, NONE);
        }
        String full = " ".repeat(492) + "limit 77";
        dueFault(full, 500);
    }

    private static void statements() {
        Due.of("At most 16 statements");
        String[] kinds = {"limit 1;", "depth 1;", "close 1 to 2 from 3 to 4;", "if tons<1 then keep;"};
        for (String kind : kinds) {
            dueFault(kind.repeat(15), NONE);
            dueFault(kind.repeat(16), NONE);
            dueFault(kind.repeat(16) + "  \n", NONE);
            Due.of("the 17th statement, the fourth TEST: where it begins");
            dueFault(kind.repeat(16) + " \n" + kind, 16 * kind.length() + 2);
            dueFault(kind.repeat(16) + "limit", 16 * kind.length());
            dueFault(kind.repeat(16) + " ?", 16 * kind.length() + 1);
            dueFault(kind.repeat(15) + "limit", 15 * kind.length() + 5);
            Due.of("At most 16 statements");
        }
        // The 16th still counts.
        PeatBog x = new PeatBog();
        Due.enact(x, "limit 1;".repeat(15) + "limit 2;");
        Due.due("tells(0, 0)", x.tells(0, 0), 2);
    }

    private static void tests() {
        Due.of("At most 16 statements of 3 TESTS.");
        String[] kinds = {"heat>1", "weeks<1", "tons=1"};
        for (String kind : kinds) {
            String three = "if " + kind + " and " + kind + " and " + kind;
            dueFault("if then keep;", 3);
            dueFault("if " + kind + " then keep;", NONE);
            dueFault("if " + kind + " and " + kind + " then keep;", NONE);
            dueFault(three + " then keep;", NONE);
            Due.of("the 17th statement, the fourth TEST: where it begins");
            dueFault(three + " and  " + kind + " then keep;", three.length() + 6);
            dueFault(three + " and heat", three.length() + 5);
            dueFault(three + " and ", three.length() + 5);
            dueFault(three + " and", three.length() + 4);
            dueFault(three, three.length());
            Due.of("At most 16 statements of 3 TESTS.");
        }
        // Each of 16 statements may have 3.
        String rule = "if tons<1and tons<1and heat<1then keep;";
        String text = rule.repeat(12);
        dueFault(text, NONE);
    }

    private static void emptyTexts() {
        Due.of("THE LAW is a text");
        dueFault("", NONE);
        dueFault(" ", NONE);
        dueFault("\n", NONE);
        dueFault(" ".repeat(500), NONE);
        PeatBog x = new PeatBog();
        Due.due("law(0) without a tape", x.law(0), 0);
        Due.due("tells(0, 2)", x.tells(0, 2), 0);
    }

    private static void inForceFromToday() {
        Due.of("it's in force from TODAY on");
        PeatBog x = new PeatBog();
        Due.passDays(x, 3);
        Due.enact(x, "limit 3;depth 30;");
        Due.passDays(x, 1);
        Due.enact(x, "limit 4;");
        Due.enact(x, "limit 44;");
        int[] limits = {550, 550, 550, 3, 44, 44};
        int[] depths = {0, 0, 0, 30, 0, 0};
        int[] numbers = {NONE, NONE, NONE, 0, 2, 2};
        for (int day = 0; day < 6; day++) {
            Due.due("limit on " + day, x.tells(day, 0), limits[day]);
            Due.due("depth on " + day, x.tells(day, 1), depths[day]);
            Due.due("number on " + day, x.tells(day, 2), numbers[day]);
        }
        Due.due("limit on 1000", x.tells(1000, 0), 44);
        // What had been allowed before isn't any more, from the call on.
        PeatBog y = new PeatBog();
        Due.ready(y, 0, 1);
        Due.due("bars(0)", y.bars(0), 0);
        Due.enact(y, "limit 99;depth 990;close 1 to 1 from 0 to 0;");
        Due.due("bars(0)", y.bars(0), 5);
        Due.due("mill(1, 1)", y.mill(1, 1), -4);
        Due.due("mill(2, 11)", y.mill(2, 11), -5);
        Due.enact(y, "");
        Due.due("bars(0)", y.bars(0), 0);
        Due.due("mill(1, 1)", y.mill(1, 1), 0);
        Due.due("mill(2, 11)", y.mill(2, 11), 0);
    }

    private static void lastOfSeveral() {
        Due.of("LIMIT (the last; 550), DEPTH left (the last; 0).");
        PeatBog x = new PeatBog();
        Due.due("no law", x.tells(0, 0), 550);
        Due.due("no law", x.tells(0, 1), 0);
        Due.enact(x, "limit 7;depth 8;limit 900;depth 9;limit 20;depth 3;");
        Due.due("the last, not the greatest", x.tells(0, 0), 20);
        Due.due("the last, not the greatest", x.tells(0, 1), 3);
        Due.enact(x, "depth 4;");
        Due.due("none in this one", x.tells(0, 0), 550);
        Due.enact(x, "limit 0;");
        Due.due("told as 0", x.tells(0, 0), 0);
        Due.due("none in this one", x.tells(0, 1), 0);
    }

    private static void closedBays() {
        Due.of("a to b the BAYS, d to e the DAYS (both ends");
        int[][] closings = {{0, 0}, {15, 15}, {0, 15}, {3, 5}, {5, 3}, {14, 16}, {16, 20}, {15, 9999}, {9999, 0}, {1, 0}};
        for (int[] c : closings) {
            PeatBog x = new PeatBog();
            Due.enact(x, "close " + c[0] + " to " + c[1] + " from 0 to 0;");
            for (int b = 0; b < 16; b++) {
                boolean closed = b >= c[0] && b <= c[1];
                Due.due("bay " + b + " in " + c[0] + " to " + c[1], x.tells(0, 10 + b), closed ? 1 : 0);
                Due.due("mill(" + b + ", 1)", x.mill(b, 1), closed ? -4 : 0);
            }
        }
    }

    private static void closedDays() {
        Due.of("a to b the BAYS, d to e the DAYS (both ends");
        int[][] closings = {{0, 0}, {10, 20}, {20, 20}, {0, 364}, {364, 364}, {300, 9999}, {365, 400}, {0, 365}};
        int[] days = {0, 1, 9, 10, 11, 19, 20, 21, 299, 300, 363, 364};
        for (int[] c : closings) {
            PeatBog x = new PeatBog();
            Due.enact(x, "close 2 to 2 from " + c[0] + " to " + c[1] + ";");
            for (int day : days) {
                boolean closed = day >= c[0] && day <= c[1];
                Due.due("day " + day + " in " + c[0] + " to " + c[1], x.tells(day, 12), closed ? 1 : 0);
                Due.due("a year later", x.tells(day + 365, 12), closed ? 1 : 0);
            }
        }
        PeatBog y = new PeatBog();
        Due.enact(y, "close 0 to 1 from 2 to 3;");
        y.mill(1, 1);
        int[] bars = {4, 4, 2, 2, 4};
        for (int day = 0; day < 5; day++) {
            Due.due("bars on " + day, y.bars(1), bars[day]);
            if (bars[day] == 2) {
                Due.due("mill on " + day, y.mill(0, 1), -4);
            }
            y.day(0, 0, 0);
        }
        Due.due("mill after it", y.mill(0, 1), 0);
    }

    private static void closedBeyondTheYear() {
        Due.of("beyond the year's end, if e is less than d");
        int[][] closings = {{364, 0}, {360, 5}, {1, 0}, {364, 363}, {5, 4}, {400, 5}, {9999, 0}, {365, 364}};
        int[] days = {0, 1, 3, 4, 5, 6, 359, 360, 363, 364};
        for (int[] c : closings) {
            PeatBog x = new PeatBog();
            Due.enact(x, "close 2 to 2 from " + c[0] + " to " + c[1] + ";");
            for (int day : days) {
                boolean closed = day >= c[0] || day <= c[1];
                Due.due("day " + day + " in " + c[0] + " to " + c[1], x.tells(day, 12), closed ? 1 : 0);
                Due.due("a year later", x.tells(day + 365, 12), closed ? 1 : 0);
                Due.due("another bay", x.tells(day, 11), 0);
            }
        }
    }

    private static void someClosing() {
        Due.of("CLOSED is a BAY that some \"close a to b from d to e\" has on a DAY of the year");
        PeatBog x = new PeatBog();
        Due.enact(x, "close 1 to 1 from 0 to 5;close 1 to 3 from 4 to 6;close 3 to 3 from 0 to 0;");
        int[][] due = {{0, 1, 0, 1}, {0, 1, 0, 0}, {0, 1, 0, 0}, {0, 1, 0, 0}, {0, 1, 1, 1}, {0, 1, 1, 1}, {0, 1, 1, 1},
            {0, 0, 0, 0}};
        for (int day = 0; day < due.length; day++) {
            for (int b = 0; b < 4; b++) {
                Due.due("bay " + b + " on " + day, x.tells(day, 10 + b), due[day][b]);
            }
        }
    }

    private static void latestFault() {
        Due.of("The FAULT's place of the latest law() that was a number or NONE; NONE: it had none.");
        PeatBog x = new PeatBog();
        Due.due("no law() yet", x.fault(), NONE);
        Due.due("law(1)", x.law(1), -2);
        Due.due("after -2", x.fault(), NONE);
        Due.due("NONE", Due.enact(x, "?"), NONE);
        Due.due("after NONE", x.fault(), 0);
        Due.due("law(-1)", x.law(-1), -2);
        Due.due("after -2", x.fault(), 0);
        Due.due("NONE", Due.enact(x, "if"), NONE);
        Due.due("after NONE again", x.fault(), 2);
        for (int l = 0; l < 7; l++) {
            Due.due("a number", Due.enact(x, ""), l);
            Due.due("after a number", x.fault(), NONE);
        }
        Due.enact(x, "depth ?");
        Due.due("after NONE", x.fault(), 6);
        Due.due("the eighth", Due.enact(x, "depth 7;"), 7);
        Due.due("after the eighth", x.fault(), NONE);
        Due.due("the ninth", Due.enact(x, "depth ?"), -3);
        Due.due("after -3", x.fault(), NONE);
    }
}
