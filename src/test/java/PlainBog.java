import java.util.ArrayList;
import java.util.Collections;
import java.util.List;
import java.util.regex.Matcher;
import java.util.regex.Pattern;

/** The document written down a second time, in another way and with all of the library, to compare answers with. */
final class PlainBog {
    private static final class Strip {
        int depth = 1000;
        int how = 0;
        int weight = 0;
        int wet = 0;
        int gathered = 0;
        final List<Integer> probes = new ArrayList<>();
    }

    private static final class Heap {
        int weight = 0;
        int wet = 0;
        int heat = 10;
        int read = -1;
        int begun = 0;
        int burnsFrom = -1;
        int turned = 0;
        boolean sent = false;
    }

    private record Edict(int since, String text) {
        int last(String word, int usual) {
            Matcher m = Pattern.compile(word + "(\\d+);").matcher(text);
            int value = usual;
            while (m.find()) {
                value = Integer.parseInt(m.group(1));
            }
            return value;
        }

        boolean closes(int bay, int day) {
            Matcher m = Pattern.compile("close(\\d+)to(\\d+)from(\\d+)to(\\d+);").matcher(text);
            while (m.find()) {
                int[] n = new int[4];
                for (int i = 0; i < 4; i++) {
                    n[i] = Integer.parseInt(m.group(i + 1));
                }
                int y = day % 365;
                boolean then = n[3] < n[2] ? !(y > n[3] && y < n[2]) : y >= n[2] && y <= n[3];
                if (n[0] <= bay && bay <= n[1] && then) {
                    return true;
                }
            }
            return false;
        }

        String deed(Heap heap, int today) {
            Matcher m = Pattern.compile("if([^;]*)then(turn|send|keep);").matcher(text);
            while (m.find()) {
                boolean all = true;
                for (String test : m.group(1).split("and")) {
                    all &= holds(test, heap, today);
                }
                if (all) {
                    return m.group(2);
                }
            }
            return "keep";
        }

        private static boolean holds(String test, Heap heap, int today) {
            Matcher m = Pattern.compile("(heat|weeks|tons)([<>=])(\\d+)").matcher(test);
            if (!m.matches() || m.group(1).equals("heat") && heap.read < 0) {
                return false;
            }
            int value = m.group(1).equals("heat") ? heap.read
                : m.group(1).equals("weeks") ? (today - heap.begun) / 7 : heap.weight;
            int sign = Integer.compare(value, Integer.parseInt(m.group(3)));
            return m.group(2).equals("<") ? sign < 0 : m.group(2).equals(">") ? sign > 0 : sign == 0;
        }
    }

    private final Strip[] strips = new Strip[16];
    private final List<Heap> heaps = new ArrayList<>();
    private final List<Edict> edicts = new ArrayList<>();
    private final StringBuilder tape = new StringBuilder();
    private int fault = -1;
    private int today = 0;
    private int track = 0;
    private int hours = 0;
    private int want = 0;
    private int store = 0;
    private int took = 0;
    private int lacked = 0;
    private int lackedLast = 0;
    private int ash = 0;

    PlainBog() {
        for (int b = 0; b < 16; b++) {
            strips[b] = new Strip();
        }
    }

    private static boolean in(int low, int n, int high) {
        return low <= n && n <= high;
    }

    private Edict edict(int day) {
        Edict found = new Edict(0, "");
        for (Edict e : edicts) {
            found = e.since() <= day ? e : found;
        }
        return found;
    }

    private boolean isHeap(int stack) {
        return in(0, stack, heaps.size() - 1);
    }

    boolean depth(int bay, int depth) {
        boolean fine = in(0, bay, 15) && in(0, depth, 3000) && strips[bay].how == 0;
        if (fine) {
            strips[bay].depth = depth;
        }
        return fine;
    }

    int mill(int bay, int much) {
        if (!in(0, bay, 15) || !in(1, much, 20)) {
            return -2;
        }
        Strip s = strips[bay];
        int refused = s.how != 0 ? -3 : edict(today).closes(bay, today) ? -4
            : s.depth - much < edict(today).last("depth", 0) ? -5 : 0;
        if (refused == 0) {
            s.depth -= much;
            s.how = 1;
            s.weight = 10 * much;
            s.wet = 800;
        }
        return refused;
    }

    boolean ridge(int bay) {
        boolean fine = in(0, bay, 15) && strips[bay].how == 1;
        if (fine) {
            strips[bay].how = 2;
        }
        return fine;
    }

    int probe(int bay, int wet) {
        if (!in(0, bay, 15) || !in(0, wet, 900) || strips[bay].how == 0 || strips[bay].probes.size() == 8) {
            return -1;
        }
        strips[bay].probes.add(wet);
        return strips[bay].probes.size();
    }

    int stack() {
        if (heaps.size() == 10) {
            return -1;
        }
        heaps.add(new Heap());
        heaps.get(heaps.size() - 1).begun = today;
        return heaps.size() - 1;
    }

    int bars(int bay) {
        if (!in(0, bay, 15) || strips[bay].how == 0) {
            return 1;
        }
        List<Integer> probes = strips[bay].probes;
        return edict(today).closes(bay, today) ? 2 : !in(bay - 1, track, bay + 1) ? 3 : probes.size() < 3 ? 4
            : Collections.max(probes) > edict(today).last("limit", 550) ? 5 : 0;
    }

    int gather(int bay, int stack) {
        if (bars(bay) != 0 || !isHeap(stack) || heaps.get(stack).burnsFrom >= 0 || heaps.get(stack).sent) {
            return -1;
        }
        Strip s = strips[bay];
        Heap h = heaps.get(stack);
        int weight = s.weight;
        h.wet = (h.weight * h.wet + weight * s.wet) / (h.weight + weight);
        h.weight += weight;
        s.gathered += weight;
        s.how = s.weight = s.wet = 0;
        return weight;
    }

    int track(int bay) {
        if (!in(0, bay, 15)) {
            return -1;
        }
        int way = Math.abs(bay - track);
        track = bay;
        hours += way;
        return way;
    }

    boolean want(int much) {
        want = in(0, much, 1000) ? much : want;
        return in(0, much, 1000);
    }

    boolean read(int stack, int heat) {
        if (!isHeap(stack) || !in(0, heat, 100)) {
            return false;
        }
        heaps.get(stack).read = heat;
        return true;
    }

    int day(int sun, int wind, int rain) {
        if (!in(0, sun, 10) || !in(0, wind, 10) || !in(0, rain, 50) || today == 1000) {
            return -1;
        }
        for (Strip s : strips) {
            s.probes.clear();
            if (s.how != 0) {
                s.wet = Math.max(0, s.wet - (12 * sun + 6 * wind) / s.how);
                s.wet = Math.min(900, s.wet + (s.how == 2 ? rain * 10 / 4 : rain * 10));
            }
        }
        for (Heap h : heaps) {
            heat(h, rain);
        }
        feedHouse();
        today++;
        if (today % 7 == 0) {
            actOnHeaps();
        }
        return today;
    }

    private void heat(Heap h, int rain) {
        if (h.weight == 0) {
            return;
        }
        if (h.burnsFrom >= 0) {
            int burnt = h.weight < 10 ? 1 : h.weight / 10;
            h.weight -= burnt;
            ash += burnt;
            return;
        }
        h.heat += 1 + h.weight / 500;
        h.heat += h.wet > 500 ? 2 : 0;
        h.heat -= rain > 20 ? 3 : 0;
        h.heat = h.heat < 10 ? 10 : Math.min(h.heat, 100);
        h.burnsFrom = h.heat == 100 ? today : -1;
    }

    private void feedHouse() {
        int need = want;
        while (need > 0 && store > 0) {
            need--;
            store--;
        }
        for (Heap h : heaps) {
            while (need > 0 && h.weight > 0 && h.burnsFrom < 0) {
                need--;
                h.weight--;
            }
        }
        took += want - need;
        lackedLast = need;
        lacked += need;
    }

    private void actOnHeaps() {
        for (Heap h : heaps) {
            if (h.weight == 0 || h.burnsFrom >= 0) {
                continue;
            }
            String deed = edict(today).deed(h, today);
            if (deed.equals("turn")) {
                h.heat = Math.max(h.heat / 2, 10);
                h.turned++;
            } else if (deed.equals("send")) {
                store += h.weight;
                h.weight = 0;
                h.sent = true;
            }
        }
    }

    int feed(int a, int b, int c, int d, int e) {
        if (tape.length() > 480) {
            return -1;
        }
        for (int n : new int[] {a, b, c, d, e}) {
            tape.append((char) (n >>> 24)).append((char) (n >>> 16 & 255));
            tape.append((char) (n >>> 8 & 255)).append((char) (n & 255));
        }
        return tape.length();
    }

    int law(int n) {
        if (n < 0 || n > tape.length()) {
            return -2;
        }
        if (edicts.size() == 8) {
            return -3;
        }
        String text = tape.substring(0, n);
        tape.setLength(0);
        fault = FaultTest.faultOf(text);
        if (fault >= 0) {
            return -1;
        }
        edicts.add(new Edict(today, text.replaceAll("[ \n]", "")));
        return edicts.size() - 1;
    }

    int fault() {
        return fault;
    }

    int tells(int day, int what) {
        if (!in(0, day, 1000)) {
            return -1;
        }
        Edict e = edict(day);
        return what == 0 ? e.last("limit", 550) : what == 1 ? e.last("depth", 0) : what == 2 ? edicts.indexOf(e)
            : in(10, what, 25) ? e.closes(what - 10, day) ? 1 : 0 : -1;
    }

    int bay(int bay, int what) {
        if (!in(0, bay, 15) || !in(0, what, 6)) {
            return -1;
        }
        Strip s = strips[bay];
        int greatest = s.probes.isEmpty() ? -1 : Collections.max(s.probes);
        return new int[] {s.depth, s.how, s.weight, s.wet, s.probes.size(), greatest, s.gathered}[what];
    }

    int stackOf(int stack, int what) {
        if (!isHeap(stack) || !in(0, what, 8)) {
            return -1;
        }
        Heap h = heaps.get(stack);
        return new int[] {h.weight, h.wet, h.heat, h.read, h.burnsFrom < 0 ? 0 : 1, h.begun, h.burnsFrom, h.turned,
            h.sent ? 1 : 0}[what];
    }

    int best(int d, int k) {
        if (!in(1, d, 3) || !in(-1, k, d - 1)) {
            return -1;
        }
        int[] weights = new int[16];
        for (int b = 0; b < 16; b++) {
            weights[b] = strips[b].weight;
        }
        return BestTest.lay(weights, track, d)[k + 1];
    }

    int lasts() {
        int there = store;
        for (Heap h : heaps) {
            there += h.burnsFrom < 0 ? h.weight : 0;
        }
        return want == 0 ? -1 : there / want;
    }

    int count(int what) {
        int inHeaps = 0;
        for (Heap h : heaps) {
            inHeaps += h.weight;
        }
        int[] all = {today, track, hours, want, store, took, lacked, lackedLast, ash, inHeaps, heaps.size(), edicts.size(),
            tape.length()};
        return in(0, what, 12) ? all[what] : -1;
    }
}
