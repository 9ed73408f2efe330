/** Promise 16: tells. */
public final class TellsTest {
    public static void main(String[] args) {
        wrongAsks();
        inForce();
        closings();
        Due.finish();
    }

    private static void wrongAsks() {
        PeatBog x = new PeatBog();
        Due.enact(x, "close 0 to 9999 from 0 to 9999;limit 9999;depth 9999;");
        int[] wrong = {-1, 3, 9, 26, Integer.MIN_VALUE, Integer.MAX_VALUE};
        for (int what : wrong) {
            Due.due("tells(0, " + what + ")", x.tells(0, what), PeatBog.NONE);
        }
        int[] wrongDays = {-1, 1001, Integer.MIN_VALUE, Integer.MAX_VALUE};
        for (int day : wrongDays) {
            for (int what = 0; what < 26; what++) {
                Due.due("tells(" + day + ", " + what + ")", x.tells(day, what), PeatBog.NONE);
            }
        }
        Due.due("tells(0, 25)", x.tells(0, 25), 1);
        Due.due("tells(1000, 10)", x.tells(1000, 10), 1);
        Due.due("tells(1000, 0)", x.tells(1000, 0), 9999);
        Due.due("tells(1000, 1)", x.tells(1000, 1), 9999);
    }

    private static void inForce() {
        PeatBog x = new PeatBog();
        Due.passDays(x, 2);
        Due.enact(x, "limit 1;");
        Due.passDays(x, 3);
        Due.enact(x, "depth 2;");
        Due.enact(x, "depth 3;close 1 to 1 from 6 to 6;");
        Due.passDays(x, 1);
        Due.enact(x, "limit");
        int[] numbers = {-1, -1, 0, 0, 0, 2, 2, 2};
        int[] limits = {550, 550, 1, 1, 1, 550, 550, 550};
        int[] depths = {0, 0, 0, 0, 0, 3, 3, 3};
        for (int day = 0; day < 8; day++) {
            Due.due("tells(" + day + ", 0)", x.tells(day, 0), limits[day]);
            Due.due("tells(" + day + ", 1)", x.tells(day, 1), depths[day]);
            Due.due("tells(" + day + ", 2)", x.tells(day, 2), numbers[day]);
            Due.due("tells(" + day + ", 11)", x.tells(day, 11), day == 6 ? 1 : 0);
        }
        Due.due("tells(371, 11)", x.tells(371, 11), 1);
        Due.due("tells(1000, 2)", x.tells(1000, 2), 2);
        Due.due("asking changes nothing", x.count(0), 6);
    }

    private static void closings() {
        for (int day = 0; day <= 1000; day++) {
            PeatBog x = new PeatBog();
            Due.enact(x, "close 2 to 4 from 10 to 12;close 4 to 5 from 363 to 1;close 8 to 7 from 0 to 364;"
                + "close 9 to 9 from 5 to 5;close 10 to 10 from 364 to 9999;close 11 to 11 from 9999 to 0;"
                + "close 12 to 12 from 365 to 400;close 15 to 9999 from 9999 to 9998;");
            int y = day % 365;
            for (int b = 0; b < 16; b++) {
                boolean closed = b >= 2 && b <= 4 && y >= 10 && y <= 12
                    || (b == 4 || b == 5) && (y >= 363 || y <= 1)
                    || b == 9 && y == 5
                    || b == 10 && y == 364
                    || b == 11 && y == 0
                    || b == 15;
                Due.due("tells(" + day + ", " + (10 + b) + ")", x.tells(day, 10 + b), closed ? 1 : 0);
            }
        }
    }
}
