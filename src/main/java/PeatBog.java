/** Peat won from the bays of a bog and carried by rail to a power house. */
public final class PeatBog {
    public static final int NONE = -1;

    private static final int BAYS = 16;
    private static final int STACKS = 10;
    private static final int LAWS = 8;
    private static final int LAST_DAY = 1000;
    private static final int DAYS_OF_YEAR = 365;
    private static final int WEEK = 7;
    private static final int DEEPEST = 3000;
    private static final int MOST_WANTED = 1000;
    private static final int FED_BYTES = 20;

    private static final int TOLD_BADLY = -2;
    private static final int NOT_AT_REST = -3;
    private static final int CLOSED_TODAY = -4;
    private static final int TOO_SHALLOW = -5;
    private static final int TOO_MANY_LAWS = -3;

    private static final int CLOSED_FROM = 10;

    private final Bay[] bays = new Bay[BAYS];
    private final Stack[] stacks = new Stack[STACKS];
    private final Law[] laws = new Law[LAWS];
    private final Law noLaw = new Law();
    private final PowerHouse house = new PowerHouse();
    private final Tape tape = new Tape();
    private final LawReader reader = new LawReader(tape);
    private final Laying laying = new Laying();
    private int stackCount = 0;
    private int lawCount = 0;
    private int today = 0;
    private int trackBay = 0;
    private int hoursEver = 0;
    private int ashEver = 0;
    private int faultPlace = NONE;

    public PeatBog() {
        for (int b = 0; b < BAYS; b++) {
            bays[b] = new Bay();
        }
        for (int s = 0; s < STACKS; s++) {
            stacks[s] = new Stack();
        }
        for (int l = 0; l < LAWS; l++) {
            laws[l] = new Law();
        }
    }

    public boolean depth(int bay, int depth) {
        if (!isBay(bay) || !within(depth, 0, DEEPEST) || bays[bay].lies()) {
            return false;
        }
        bays[bay].depthLeft = depth;
        return true;
    }

    public int mill(int bay, int much) {
        if (!isBay(bay) || !within(much, 1, 20)) {
            return TOLD_BADLY;
        }
        if (bays[bay].lies()) {
            return NOT_AT_REST;
        }
        Law inForce = lawOn(today);
        if (inForce.closes(bay, today)) {
            return CLOSED_TODAY;
        }
        if (bays[bay].depthLeft - much < inForce.depthKept) {
            return TOO_SHALLOW;
        }
        bays[bay].loosen(much);
        return 0;
    }

    public boolean ridge(int bay) {
        if (!isBay(bay) || bays[bay].how != Bay.MILLED) {
            return false;
        }
        bays[bay].how = Bay.RIDGED;
        return true;
    }

    public int probe(int bay, int wet) {
        if (!isBay(bay) || !within(wet, 0, Bay.WETTEST) || !bays[bay].takesProbe()) {
            return NONE;
        }
        return bays[bay].addProbe(wet);
    }

    public int stack() {
        if (stackCount >= STACKS) {
            return NONE;
        }
        stacks[stackCount].begun = today;
        stackCount++;
        return stackCount - 1;
    }

    public int bars(int bay) {
        if (!isBay(bay) || !bays[bay].lies()) {
            return 1;
        }
        Law inForce = lawOn(today);
        if (inForce.closes(bay, today)) {
            return 2;
        }
        if (Math.abs(bay - trackBay) > 1) {
            return 3;
        }
        if (bays[bay].probes < 3) {
            return 4;
        }
        return bays[bay].greatestProbe > inForce.limit ? 5 : 0;
    }

    public int gather(int bay, int stack) {
        if (!isBay(bay) || bars(bay) != 0 || !isStack(stack) || !stacks[stack].takesPeat()) {
            return NONE;
        }
        int weight = bays[bay].weight;
        stacks[stack].add(weight, bays[bay].wet);
        bays[bay].clear();
        return weight;
    }

    public int track(int bay) {
        if (!isBay(bay)) {
            return NONE;
        }
        int hours = Math.abs(bay - trackBay);
        trackBay = bay;
        hoursEver += hours;
        return hours;
    }

    public boolean want(int much) {
        if (!within(much, 0, MOST_WANTED)) {
            return false;
        }
        house.wanted = much;
        return true;
    }

    public boolean read(int stack, int heat) {
        if (!isStack(stack) || !within(heat, 0, Stack.HOTTEST)) {
            return false;
        }
        stacks[stack].heatRead = heat;
        return true;
    }

    public int day(int sun, int wind, int rain) {
        if (!within(sun, 0, 10) || !within(wind, 0, 10) || !within(rain, 0, 50) || today >= LAST_DAY) {
            return NONE;
        }
        for (int b = 0; b < BAYS; b++) {
            bays[b].weather(sun, wind, rain);
        }
        for (int s = 0; s < stackCount; s++) {
            ashEver += stacks[s].glow(rain, today);
        }
        house.takeWanted(stacks, stackCount);
        today++;
        if (today % WEEK == 0) {
            applyLaw(lawOn(today));
        }
        return today;
    }

    public int feed(int a, int b, int c, int d, int e) {
        if (!tape.holdsMore(FED_BYTES)) {
            return NONE;
        }
        tape.add(a);
        tape.add(b);
        tape.add(c);
        tape.add(d);
        tape.add(e);
        return tape.length;
    }

    public int law(int n) {
        if (!within(n, 0, tape.length)) {
            return TOLD_BADLY;
        }
        if (lawCount >= LAWS) {
            return TOO_MANY_LAWS;
        }
        // The next row serves as the draft: it counts only once the text is without fault.
        Law draft = laws[lawCount];
        draft.begin(lawCount, today);
        faultPlace = reader.readText(n, draft);
        tape.length = 0;
        if (faultPlace != NONE) {
            return NONE;
        }
        lawCount++;
        return draft.number;
    }

    public int fault() {
        return faultPlace;
    }

    public int tells(int day, int what) {
        if (!within(day, 0, LAST_DAY)) {
            return NONE;
        }
        Law inForce = lawOn(day);
        if (within(what, CLOSED_FROM, CLOSED_FROM + BAYS - 1)) {
            return inForce.closes(what - CLOSED_FROM, day) ? 1 : 0;
        }
        switch (what) {
            case 0: return inForce.limit;
            case 1: return inForce.depthKept;
            case 2: return inForce.number;
            default: return NONE;
        }
    }

    public int bay(int bay, int what) {
        return isBay(bay) ? bays[bay].tellOf(what) : NONE;
    }

    public int stackOf(int stack, int what) {
        return isStack(stack) ? stacks[stack].tellOf(what) : NONE;
    }

    public int best(int d, int k) {
        if (!within(d, 1, Laying.MOST_DAYS) || !within(k, NONE, d - 1)) {
            return NONE;
        }
        laying.search(bays, trackBay, d);
        return k == NONE ? laying.bestSum : laying.bestBay(k);
    }

    public int lasts() {
        if (house.wanted <= 0) {
            return NONE;
        }
        int there = house.store;
        for (int s = 0; s < stackCount; s++) {
            if (!stacks[s].burns) {
                there += stacks[s].weight;
            }
        }
        return there / house.wanted;
    }

    public int count(int what) {
        switch (what) {
            case 0: return today;
            case 1: return trackBay;
            case 2: return hoursEver;
            case 3: return house.wanted;
            case 4: return house.store;
            case 5: return house.tookEver;
            case 6: return house.lackedEver;
            case 7: return house.lackedLast;
            case 8: return ashEver;
            case 9: return weightInStacks();
            case 10: return stackCount;
            case 11: return lawCount;
            case 12: return tape.length;
            default: return NONE;
        }
    }

    private static boolean within(int number, int least, int most) {
        return number >= least && number <= most;
    }

    private static boolean isBay(int bay) {
        return within(bay, 0, BAYS - 1);
    }

    private boolean isStack(int stack) {
        return within(stack, 0, stackCount - 1);
    }

    private Law lawOn(int day) {
        for (int l = lawCount - 1; l >= 0; l--) {
            if (laws[l].since <= day) {
                return laws[l];
            }
        }
        return noLaw;
    }

    private void applyLaw(Law inForce) {
        for (int s = 0; s < stackCount; s++) {
            Stack heap = stacks[s];
            if (heap.weight <= 0 || heap.burns) {
                continue;
            }
            int deed = inForce.deedFor(heap, (today - heap.begun) / WEEK);
            if (deed == Tokens.TURN) {
                heap.turnOver();
            } else if (deed == Tokens.SEND) {
                house.store += heap.sendAway();
            }
        }
    }

    private int weightInStacks() {
        int sum = 0;
        for (int s = 0; s < stackCount; s++) {
            sum += stacks[s].weight;
        }
        return sum;
    }

    /** A strip of the bog and the peat that lies loose on it. */
    private static final class Bay {
        static final int RESTS = 0;
        static final int MILLED = 1;
        static final int RIDGED = 2;
        static final int WETTEST = 900;
        static final int MILLED_WET = 800;
        static final int MOST_PROBES = 8;

        int depthLeft = 1000;
        int how = RESTS;
        int weight = 0;
        int wet = 0;
        int probes = 0;
        // Only the greatest probe can bar a gathering, so the others aren't kept.
        int greatestProbe = NONE;
        int gatheredEver = 0;

        boolean lies() {
            return how != RESTS;
        }

        void loosen(int much) {
            depthLeft -= much;
            weight = 10 * much;
            wet = MILLED_WET;
            how = MILLED;
        }

        boolean takesProbe() {
            return lies() && probes < MOST_PROBES;
        }

        int addProbe(int wetFound) {
            greatestProbe = Math.max(greatestProbe, wetFound);
            probes++;
            return probes;
        }

        // The probes stay: they are of the day, not of the peat that has been taken.
        void clear() {
            gatheredEver += weight;
            how = RESTS;
            weight = 0;
            wet = 0;
        }

        void weather(int sun, int wind, int rain) {
            probes = 0;
            greatestProbe = NONE;
            if (!lies()) {
                return;
            }
            int dry = 12 * sun + 6 * wind;
            int soak = 10 * rain;
            if (how == RIDGED) {
                dry /= 2;
                soak /= 4;
            }
            wet = Math.min(WETTEST, Math.max(0, wet - dry) + soak);
        }

        int tellOf(int what) {
            switch (what) {
                case 0: return depthLeft;
                case 1: return how;
                case 2: return weight;
                case 3: return wet;
                case 4: return probes;
                case 5: return greatestProbe;
                case 6: return gatheredEver;
                default: return NONE;
            }
        }
    }

    /** Gathered peat that heats as it waits. */
    private static final class Stack {
        static final int COOLEST = 10;
        static final int HOTTEST = 100;

        int weight = 0;
        int wet = 0;
        int heat = COOLEST;
        int heatRead = NONE;
        boolean burns = false;
        int begun = 0;
        int burnsSince = NONE;
        int turned = 0;
        boolean sent = false;

        boolean takesPeat() {
            return !burns && !sent;
        }

        void add(int moreWeight, int itsWet) {
            int sum = weight + moreWeight;
            if (sum > 0) {
                wet = (weight * wet + moreWeight * itsWet) / sum;
            }
            weight = sum;
        }

        /** Lets a day's heat work; the answer is what became ash. */
        int glow(int rain, int dayBegan) {
            if (weight <= 0) {
                return 0;
            }
            if (burns) {
                int ash = Math.max(1, weight / 10);
                weight -= ash;
                return ash;
            }
            int warmer = heat + 1 + weight / 500 + (wet > 500 ? 2 : 0) - (rain > 20 ? 3 : 0);
            heat = Math.min(HOTTEST, Math.max(COOLEST, warmer));
            if (heat == HOTTEST) {
                burns = true;
                burnsSince = dayBegan;
            }
            return 0;
        }

        void turnOver() {
            heat = Math.max(COOLEST, heat / 2);
            turned++;
        }

        int sendAway() {
            int load = weight;
            weight = 0;
            sent = true;
            return load;
        }

        int tellOf(int what) {
            switch (what) {
                case 0: return weight;
                case 1: return wet;
                case 2: return heat;
                case 3: return heatRead;
                case 4: return burns ? 1 : 0;
                case 5: return begun;
                case 6: return burnsSince;
                case 7: return turned;
                case 8: return sent ? 1 : 0;
                default: return NONE;
            }
        }
    }

    private static final class PowerHouse {
        int wanted = 0;
        int store = 0;
        int tookEver = 0;
        int lackedEver = 0;
        int lackedLast = 0;

        void takeWanted(Stack[] stacks, int stackCount) {
            int lacking = wanted;
            int part = Math.min(lacking, store);
            store -= part;
            lacking -= part;
            // Stacks are numbered as they are begun, so the first by number was begun first.
            for (int s = 0; s < stackCount && s < stacks.length; s++) {
                if (!stacks[s].burns) {
                    part = Math.min(lacking, stacks[s].weight);
                    stacks[s].weight -= part;
                    lacking -= part;
                }
            }
            tookEver += wanted - lacking;
            lackedEver += lacking;
            lackedLast = lacking;
        }
    }

    /** What one text lays down, in rows that are filled anew when a draft had a fault. */
    private static final class Law {
        static final int MOST_STATEMENTS = 16;
        static final int MOST_TESTS = 3;
        static final int USUAL_LIMIT = 550;

        int number = NONE;
        int since = 0;
        int limit = USUAL_LIMIT;
        int depthKept = 0;
        private int closings = 0;
        private final int[] firstBay = new int[MOST_STATEMENTS];
        private final int[] lastBay = new int[MOST_STATEMENTS];
        private final int[] firstDay = new int[MOST_STATEMENTS];
        private final int[] lastDay = new int[MOST_STATEMENTS];
        private int rules = 0;
        private final int[] testsOfRule = new int[MOST_STATEMENTS];
        private final int[] deedOfRule = new int[MOST_STATEMENTS];
        private final int[] tested = new int[MOST_STATEMENTS * MOST_TESTS];
        private final int[] sign = new int[MOST_STATEMENTS * MOST_TESTS];
        private final int[] bound = new int[MOST_STATEMENTS * MOST_TESTS];

        void begin(int itsNumber, int itsDay) {
            number = itsNumber;
            since = itsDay;
            limit = USUAL_LIMIT;
            depthKept = 0;
            closings = 0;
            rules = 0;
        }

        void addClosing(int fromBay, int toBay, int fromDay, int toDay) {
            if (closings >= MOST_STATEMENTS) {
                return;
            }
            firstBay[closings] = fromBay;
            lastBay[closings] = toBay;
            firstDay[closings] = fromDay;
            lastDay[closings] = toDay;
            closings++;
        }

        /** Writes a test of the rule that is being read; it counts once the rule is added. */
        void putTest(int nth, int what, int itsSign, int itsBound) {
            if (rules >= MOST_STATEMENTS || !within(nth, 0, MOST_TESTS - 1)) {
                return;
            }
            int t = rules * MOST_TESTS + nth;
            tested[t] = what;
            sign[t] = itsSign;
            bound[t] = itsBound;
        }

        void addRule(int tests, int deed) {
            if (rules >= MOST_STATEMENTS || !within(tests, 1, MOST_TESTS)) {
                return;
            }
            testsOfRule[rules] = tests;
            deedOfRule[rules] = deed;
            rules++;
        }

        boolean closes(int bayNumber, int onDay) {
            int dayOfYear = onDay % DAYS_OF_YEAR;
            for (int c = 0; c < closings; c++) {
                if (within(bayNumber, firstBay[c], lastBay[c]) && runsOn(c, dayOfYear)) {
                    return true;
                }
            }
            return false;
        }

        private boolean runsOn(int c, int dayOfYear) {
            if (lastDay[c] < firstDay[c]) {
                return dayOfYear >= firstDay[c] || dayOfYear <= lastDay[c];
            }
            return within(dayOfYear, firstDay[c], lastDay[c]);
        }

        int deedFor(Stack heap, int weeks) {
            for (int r = 0; r < rules; r++) {
                if (allHold(r, heap, weeks)) {
                    return deedOfRule[r];
                }
            }
            return Tokens.KEEP;
        }

        private boolean allHold(int r, Stack heap, int weeks) {
            int first = r * MOST_TESTS;
            for (int t = first; t < first + testsOfRule[r]; t++) {
                if (!holds(t, heap, weeks)) {
                    return false;
                }
            }
            return true;
        }

        private boolean holds(int t, Stack heap, int weeks) {
            if (tested[t] == Tokens.HEAT && heap.heatRead == NONE) {
                return false;
            }
            int value = valueOf(tested[t], heap, weeks);
            switch (sign[t]) {
                case Tokens.LESS: return value < bound[t];
                case Tokens.MORE: return value > bound[t];
                default: return value == bound[t];
            }
        }

        private static int valueOf(int what, Stack heap, int weeks) {
            switch (what) {
                case Tokens.HEAT: return heap.heatRead;
                case Tokens.WEEKS: return weeks;
                default: return heap.weight;
            }
        }
    }

    /** Bytes that have been fed and not yet been made a law. */
    private static final class Tape {
        static final int MOST_BYTES = 500;

        private final byte[] bytes = new byte[MOST_BYTES];
        int length = 0;

        boolean holdsMore(int more) {
            return length + more <= MOST_BYTES;
        }

        void add(int word) {
            if (!holdsMore(4)) {
                return;
            }
            for (int shift = 24; shift >= 0; shift -= 8) {
                bytes[length] = (byte) (word >> shift);
                length++;
            }
        }

        int at(int place) {
            return place >= 0 && place < length ? bytes[place] & 255 : 0;
        }
    }

    /** The tokens of a text, cut all at once so that the reader's calls stay shallow. */
    private static final class Tokens {
        static final int END = 0;
        static final int LIMIT = 1;
        static final int DEPTH = 2;
        static final int CLOSE = 3;
        static final int TO = 4;
        static final int FROM = 5;
        static final int IF = 6;
        static final int AND = 7;
        static final int THEN = 8;
        static final int TURN = 9;
        static final int SEND = 10;
        static final int KEEP = 11;
        static final int HEAT = 12;
        static final int WEEKS = 13;
        static final int TONS = 14;
        static final int NUMBER = 15;
        // What no text goes on with: unknown words, long numbers, bytes that begin no token.
        static final int STRANGE = 16;
        // A sign's code is its own byte, and all of these lie above the codes.
        static final int SEMICOLON = ';';
        static final int LESS = '<';
        static final int EQUAL = '=';
        static final int MORE = '>';

        static final int NUMBER_DIGITS = 4;

        private final Tape tape;
        private int count = 0;
        private final int[] codes = new int[Tape.MOST_BYTES];
        private final int[] places = new int[Tape.MOST_BYTES];
        private final int[] values = new int[Tape.MOST_BYTES];
        private int textLength = 0;

        Tokens(Tape tape) {
            this.tape = tape;
        }

        void cut(int length) {
            count = 0;
            textLength = length;
            int from = 0;
            while (from < length) {
                int to = from + 1;
                if (isLetter(tape.at(from))) {
                    while (to < length && isLetter(tape.at(to))) {
                        to++;
                    }
                    keep(wordCode(from, to), from, 0);
                } else if (isDigit(tape.at(from))) {
                    while (to < length && isDigit(tape.at(to))) {
                        to++;
                    }
                    keepNumber(from, to);
                } else if (!isBlank(tape.at(from))) {
                    keep(signCode(tape.at(from)), from, 0);
                }
                from = to;
            }
        }

        int codeAt(int i) {
            return i >= 0 && i < count ? codes[i] : END;
        }

        /** Behind the last token it is the text's length, where more would have to come. */
        int placeAt(int i) {
            return i >= 0 && i < count ? places[i] : textLength;
        }

        int valueAt(int i) {
            return i >= 0 && i < count ? values[i] : 0;
        }

        private void keep(int code, int place, int value) {
            if (count >= Tape.MOST_BYTES) {
                return;
            }
            codes[count] = code;
            places[count] = place;
            values[count] = value;
            count++;
        }

        private void keepNumber(int from, int to) {
            if (to - from > NUMBER_DIGITS) {
                keep(STRANGE, from, 0);
                return;
            }
            int value = 0;
            for (int i = from; i < to; i++) {
                value = 10 * value + tape.at(i) - '0';
            }
            keep(NUMBER, from, value);
        }

        private int wordCode(int from, int to) {
            for (int code = LIMIT; code <= TONS; code++) {
                if (spells(wordOf(code), from, to)) {
                    return code;
                }
            }
            return STRANGE;
        }

        private boolean spells(String word, int from, int to) {
            if (to - from != word.length()) {
                return false;
            }
            for (int i = 0; i < word.length(); i++) {
                if (tape.at(from + i) != word.charAt(i)) {
                    return false;
                }
            }
            return true;
        }

        private static String wordOf(int code) {
            switch (code) {
                case LIMIT: return "limit";
                case DEPTH: return "depth";
                case CLOSE: return "close";
                case TO: return "to";
                case FROM: return "from";
                case IF: return "if";
                case AND: return "and";
                case THEN: return "then";
                case TURN: return "turn";
                case SEND: return "send";
                case KEEP: return "keep";
                case HEAT: return "heat";
                case WEEKS: return "weeks";
                case TONS: return "tons";
                default: return "";
            }
        }

        private static int signCode(int c) {
            return c == SEMICOLON || c == LESS || c == EQUAL || c == MORE ? c : STRANGE;
        }

        private static boolean isLetter(int c) {
            return c >= 'a' && c <= 'z';
        }

        private static boolean isDigit(int c) {
            return c >= '0' && c <= '9';
        }

        private static boolean isBlank(int c) {
            return c == 32 || c == 10;
        }
    }

    /** Reads a text as a law. A step that fails leaves the next token where the fault is. */
    private static final class LawReader {
        private final Tokens tokens;
        private int next = 0;

        LawReader(Tape tape) {
            tokens = new Tokens(tape);
        }

        /** Answers the place of the fault, NONE if the text is without one. */
        int readText(int textLength, Law draft) {
            tokens.cut(textLength);
            next = 0;
            for (int told = 0; told < Law.MOST_STATEMENTS; told++) {
                if (tokens.codeAt(next) == Tokens.END) {
                    return NONE;
                }
                if (!readStatement(draft)) {
                    return tokens.placeAt(next);
                }
            }
            return tokens.codeAt(next) == Tokens.END ? NONE : tokens.placeAt(next);
        }

        private boolean readStatement(Law draft) {
            if (take(Tokens.LIMIT)) {
                draft.limit = takeNumber();
                return draft.limit != NONE && take(Tokens.SEMICOLON);
            }
            if (take(Tokens.DEPTH)) {
                draft.depthKept = takeNumber();
                return draft.depthKept != NONE && take(Tokens.SEMICOLON);
            }
            if (take(Tokens.CLOSE)) {
                return readClosing(draft);
            }
            return take(Tokens.IF) && readRule(draft);
        }

        private boolean readClosing(Law draft) {
            int fromBay = takeNumber();
            if (fromBay == NONE || !take(Tokens.TO)) {
                return false;
            }
            int toBay = takeNumber();
            if (toBay == NONE || !take(Tokens.FROM)) {
                return false;
            }
            int fromDay = takeNumber();
            if (fromDay == NONE || !take(Tokens.TO)) {
                return false;
            }
            int toDay = takeNumber();
            if (toDay == NONE || !take(Tokens.SEMICOLON)) {
                return false;
            }
            draft.addClosing(fromBay, toBay, fromDay, toDay);
            return true;
        }

        private boolean readRule(Law draft) {
            int tests = 0;
            do {
                // The test too many is the fault, not the "and" ahead of it.
                if (tests >= Law.MOST_TESTS || !readTest(draft, tests)) {
                    return false;
                }
                tests++;
            } while (take(Tokens.AND));
            if (!take(Tokens.THEN)) {
                return false;
            }
            int deed = takeOneOf(Tokens.TURN, Tokens.SEND, Tokens.KEEP);
            if (deed == NONE || !take(Tokens.SEMICOLON)) {
                return false;
            }
            draft.addRule(tests, deed);
            return true;
        }

        private boolean readTest(Law draft, int nth) {
            int what = takeOneOf(Tokens.HEAT, Tokens.WEEKS, Tokens.TONS);
            if (what == NONE) {
                return false;
            }
            int sign = takeOneOf(Tokens.LESS, Tokens.MORE, Tokens.EQUAL);
            if (sign == NONE) {
                return false;
            }
            int number = takeNumber();
            if (number == NONE) {
                return false;
            }
            draft.putTest(nth, what, sign, number);
            return true;
        }

        private boolean take(int code) {
            if (tokens.codeAt(next) != code) {
                return false;
            }
            next++;
            return true;
        }

        private int takeOneOf(int a, int b, int c) {
            int code = tokens.codeAt(next);
            if (code != a && code != b && code != c) {
                return NONE;
            }
            next++;
            return code;
        }

        private int takeNumber() {
            if (tokens.codeAt(next) != Tokens.NUMBER) {
                return NONE;
            }
            next++;
            return tokens.valueAt(next - 1);
        }
    }

    /** Finds where the track should lie on the days ahead. */
    private static final class Laying {
        static final int MOST_DAYS = 3;
        static final int HOUR_COST = 5;
        static final int BITS = 4;

        private final int[] nearWeight = new int[BAYS];
        private final int[] weight = new int[BAYS];
        // Row k holds how it stands before day k: where the track is, what is gathered, the sum.
        private final int[] at = new int[MOST_DAYS + 1];
        private final int[] gathered = new int[MOST_DAYS + 1];
        private final int[] sum = new int[MOST_DAYS + 1];
        private int days = 1;
        private int bestCode = 0;
        int bestSum = 0;

        /** Tries the layings in the order of their bays, so that of equal sums the least stays. */
        void search(Bay[] bays, int trackBay, int dayCount) {
            if (!within(dayCount, 1, MOST_DAYS)) {
                return;
            }
            days = dayCount;
            weigh(bays);
            at[0] = trackBay;
            int layings = 1 << (BITS * days);
            for (int code = 0; code < layings; code++) {
                for (int k = firstChanged(code); k < days; k++) {
                    layDay(k, bayIn(code, k));
                }
                if (code == 0 || sum[days] > bestSum) {
                    bestSum = sum[days];
                    bestCode = code;
                }
            }
        }

        int bestBay(int k) {
            return within(k, 0, days - 1) ? bayIn(bestCode, k) : NONE;
        }

        private void weigh(Bay[] bays) {
            for (int b = 0; b < BAYS && b < bays.length; b++) {
                weight[b] = bays[b].weight;
            }
            for (int b = 0; b < BAYS; b++) {
                nearWeight[b] = freshWeight(b, 0);
            }
        }

        // A laying's code has a digit of four bits for each day, the first day's the highest.
        private int bayIn(int code, int k) {
            return (code >> (BITS * (days - 1 - k))) & (BAYS - 1);
        }

        // Days ahead of this one have the bays of the laying tried before, and their rows stand.
        private int firstChanged(int code) {
            int k = days - 1;
            while (k > 0 && bayIn(code, k) == 0) {
                k--;
            }
            return k;
        }

        private void layDay(int k, int to) {
            if (!within(k, 0, MOST_DAYS - 1) || !isBay(to)) {
                return;
            }
            int near = nearBits(to);
            int gain = (gathered[k] & near) == 0 ? nearWeight[to] : freshWeight(to, gathered[k]);
            sum[k + 1] = sum[k] + gain - HOUR_COST * Math.abs(to - at[k]);
            gathered[k + 1] = gathered[k] | near;
            at[k + 1] = to;
        }

        private int freshWeight(int to, int taken) {
            int fresh = 0;
            for (int b = Math.max(0, to - 1); b <= Math.min(BAYS - 1, to + 1); b++) {
                if ((taken & (1 << b)) == 0) {
                    fresh += weight[b];
                }
            }
            return fresh;
        }

        private static int nearBits(int to) {
            return (7 << to) >> 1;
        }
    }
}
