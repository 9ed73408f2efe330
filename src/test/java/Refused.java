/**
 * Calls that are refused "doing nothing": each is made on one of two objects with the same past, and
 * the two must answer alike from then on.
 */
final class Refused {
    interface Past {
        void of(PeatBog x);
    }

    interface Call {
        int of(PeatBog x);
    }

    private static final int LOOKS = 3;

    private Refused() {
    }

    static void due(String call, Past past, Call refused, int want) {
        // An object is good for 512 calls, so each look has a pair of its own.
        for (int look = 0; look < LOOKS; look++) {
            PeatBog x = new PeatBog();
            PeatBog twin = new PeatBog();
            past.of(x);
            past.of(twin);
            Due.due(call, refused.of(x), want);
            String[] due = looked(twin, look).split("\n");
            String[] got = looked(x, look).split("\n");
            Due.due("lines looked at after " + call, got.length, due.length);
            for (int i = 0; i < Math.min(got.length, due.length); i++) {
                boolean same = got[i].equals(due[i]);
                Due.due("after " + call + ": " + got[i] + " (untouched: " + due[i] + ")", same, true);
            }
        }
    }

    static void due(String call, Past past, Call refused, boolean want) {
        due(call, past, refused, want ? 1 : 0);
    }

    private static String looked(PeatBog x, int look) {
        StringBuilder seen = new StringBuilder();
        if (look == 0) {
            state(x, seen);
        } else if (look == 1) {
            lawsAndLayings(x, seen);
        } else {
            whatFollows(x, seen);
        }
        return seen.toString();
    }

    private static void state(PeatBog x, StringBuilder seen) {
        for (int b = 0; b < 16; b++) {
            seen.append("bay ").append(b).append(':');
            for (int what = 0; what < 7; what++) {
                seen.append(' ').append(x.bay(b, what));
            }
            seen.append(" bars ").append(x.bars(b)).append('\n');
        }
        for (int s = 0; s < 10; s++) {
            seen.append("stack ").append(s).append(':');
            for (int what = 0; what < 9; what++) {
                seen.append(' ').append(x.stackOf(s, what));
            }
            seen.append('\n');
        }
        for (int what = 0; what < 13; what++) {
            seen.append("count(").append(what).append(") ").append(x.count(what)).append('\n');
        }
        seen.append("lasts ").append(x.lasts()).append('\n');
        seen.append("fault ").append(x.fault()).append('\n');
    }

    private static void lawsAndLayings(PeatBog x, StringBuilder seen) {
        for (int day : new int[] {0, 1, 36, 364, 365, 1000}) {
            seen.append("tells of ").append(day).append(':');
            for (int what = 0; what < 26; what++) {
                seen.append(' ').append(x.tells(day, what));
            }
            seen.append('\n');
        }
        for (int d = 1; d <= 3; d++) {
            seen.append("best for ").append(d).append(':');
            for (int k = -1; k < d; k++) {
                seen.append(' ').append(x.best(d, k));
            }
            seen.append('\n');
        }
    }

    /** What no question tells shows as things go on: the bytes of the tape, the rules, each probe. */
    private static void whatFollows(PeatBog x, StringBuilder seen) {
        seen.append("law ").append(x.law(x.count(12))).append(" fault ").append(x.fault());
        seen.append(" limit ").append(x.tells(1000, 0)).append(" depth ").append(x.tells(1000, 1)).append('\n');
        for (int b = 0; b < 16; b++) {
            seen.append("gathered of ").append(b).append(": ").append(x.gather(b, 3)).append('\n');
            seen.append("milled of ").append(b).append(": ").append(x.mill(b, 2)).append('\n');
        }
        seen.append("stack ").append(x.stack()).append('\n');
        for (int i = 0; i < 7; i++) {
            seen.append("day ").append(x.day(i, 3, 2 * i)).append('\n');
        }
        state(x, seen);
    }

    /** A bog with something of everything, on day 36: about 90 calls. */
    static void busy(PeatBog x) {
        for (int s = 0; s < 4; s++) {
            x.stack();
        }
        x.mill(14, 3);
        Due.enact(x, "limit 700;depth 100;close 13 to 15 from 0 to 364;if heat=80 then send;if heat=70 then turn;");
        Due.bring(x, 0, 20, 0);
        Due.passDays(x, 30);
        Due.bring(x, 1, 10, 1);
        Due.bring(x, 2, 12, 2);
        x.read(1, 80);
        x.read(2, 70);
        x.want(10);
        Due.passDays(x, 5);
        Due.enact(x, "limit 710;if weeks > 4 then turn;close 13 to 15 from 0 to 364;depth 120;");
        Due.enact(x, "limit ?");
        x.want(90);
        x.day(1, 1, 1);
        Due.bring(x, 3, 15, 3);
        x.mill(4, 5);
        x.mill(5, 6);
        x.ridge(4);
        Due.probes(x, 4, 3, 710);
        Due.probes(x, 5, 2, 300);
        x.mill(6, 7);
        Due.probes(x, 6, 8, 711);
        x.mill(9, 1);
        Due.probes(x, 9, 3, 5);
        x.depth(10, 130);
        x.track(5);
        Due.feedBytes(x, Due.bytesOf("limit 333;"));
    }
}
