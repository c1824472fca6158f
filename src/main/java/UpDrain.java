/**
 * A town's pipes down to one outfall, what sources let into them, what cups say of it,
 * and searches for the source. The document DOC.md numbers what each call promises.
 */
public final class UpDrain {
    public static final int NONE = -1, UNKNOWN = -2, OUTSIDE = -3, NOT = -4, FULL = -5;

    private static final int NODES = 12, CUPS = 4, HOURS = 24, HOUR = 60, MINUTES = 1440;
    private static final int MOST_TIMES = 6, MOST_FOUND = 10, MOST_STRENGTH = 9999;
    private static final int MOST_LIDS = 8, MOST_WALK = 999, SEEDS = 65536;

    private final Text text;
    private final Town plan;
    private final Ways ways;
    private final Water water;
    private final Thoughts thoughts;
    private final Hunt hunt;
    private final Lids lids;
    private final DayWalk aDay;
    private final Filling asked;

    public UpDrain() {
        text = new Text();
        plan = new Town();
        ways = new Ways(plan);
        water = new Water(plan, ways);
        thoughts = new Thoughts(plan, ways, water);
        hunt = new Hunt(plan, ways);
        lids = new Lids(plan, ways);
        aDay = new DayWalk(plan, ways, hunt);
        asked = new Filling();
        lookAgain();
    }

    // ---- the town

    public int write(long bytes, int n) {
        if (n < 1 || n > 8) {
            return OUTSIDE;
        }
        if (text.length + n > Text.MOST_BYTES) {
            return FULL;
        }
        return text.append(bytes, n);
    }

    public int erase() {
        return text.empty();
    }

    public int fault() {
        return text.read();
    }

    public int town() {
        if (text.read() != NONE) {
            return NOT;
        }
        int told = text.lines;
        for (int line = 0; line < told; line++) {
            plan.tell(text.kinds[line], text.numbers, line * Text.MOST_NUMBERS);
        }
        text.empty();
        lookAgain();
        return told;
    }

    public int of(int node, int what) {
        if (!isThere(node)) {
            return UNKNOWN;
        }
        switch (what) {
            case 0: return plan.down[node];
            case 1: return plan.minutes[node];
            case 2: return plan.paces[node];
            case 3: return plan.gone[node];
            case 4: return plan.inflow[node];
            case 5: return plan.likely[node];
            case 6: return plan.strength[node];
            case 7: return plan.from[node];
            case 8: return plan.until[node];
            default: return OUTSIDE;
        }
    }

    public int cup(int cup, int what) {
        if (!isCup(cup)) {
            return UNKNOWN;
        }
        switch (what) {
            case 0: return plan.tells[cup];
            case 1: return plan.wrongYes[cup];
            case 2: return plan.wrongNo[cup];
            default: return OUTSIDE;
        }
    }

    public int above(int node) {
        return isThere(node) ? ways.over[node] : UNKNOWN;
    }

    public int walk(int a, int b) {
        return isThere(a) && isThere(b) ? ways.minutesBetween(a, b) : UNKNOWN;
    }

    // ---- what comes

    public int flow(int node, int hour) {
        if (!isThere(node)) {
            return UNKNOWN;
        }
        if (hour < 0 || hour >= HOURS) {
            return OUTSIDE;
        }
        return water.flowAt(node, hour);
    }

    public int comes(int source, int node, int minute, int what) {
        if (!isThere(source) || !isThere(node)) {
            return UNKNOWN;
        }
        if (!isMinute(minute) || !isPart(what)) {
            return OUTSIDE;
        }
        Stream stream = water.streams[source];
        return what == 0 ? stream.amountAt(node, minute) : water.thinAt(node, minute, stream, null);
    }

    public int should(int source, int cup, int set, int minute, int n) {
        if (!isThere(source) || !isCup(cup)) {
            return UNKNOWN;
        }
        if (!canFill(set, minute, n)) {
            return OUTSIDE;
        }
        asked.put(cup, set, minute, n, true);
        return water.shouldSayYes(asked, water.streams[source], null) ? 1 : 0;
    }

    // ---- what is thought

    public int found(int cup, int set, int minute, int n, boolean yes) {
        if (!isCup(cup)) {
            return UNKNOWN;
        }
        if (!canFill(set, minute, n)) {
            return OUTSIDE;
        }
        if (thoughts.size >= MOST_FOUND) {
            return FULL;
        }
        return thoughts.keep(cup, set, minute, n, yes);
    }

    public int forget() {
        return thoughts.drop();
    }

    public long chance(int source, int part) {
        if (source != NONE && !isSource(source)) {
            return UNKNOWN;
        }
        if (!isPart(part)) {
            return OUTSIDE;
        }
        thoughts.thinkOfOne();
        long all = thoughts.allOfOne;
        if (all == 0) {
            return NOT;
        }
        return lowest(source == NONE ? thoughts.ofNone : thoughts.ofOne[source], all, part);
    }

    public long two(int a, int b, int part) {
        if (!isSource(a) || !isSource(b) || a == b) {
            return UNKNOWN;
        }
        if (!isPart(part)) {
            return OUTSIDE;
        }
        thoughts.thinkOfTwo();
        long all = thoughts.allOfTwo;
        return all == 0 ? NOT : lowest(thoughts.ofTwo[a * NODES + b], all, part);
    }

    public long worth(int cup, int set, int minute, int n, int part) {
        if (!isCup(cup)) {
            return UNKNOWN;
        }
        if (!canFill(set, minute, n) || !isPart(part)) {
            return OUTSIDE;
        }
        thoughts.thinkOfOne();
        if (thoughts.allOfOne == 0) {
            return NOT;
        }
        asked.put(cup, set, minute, n, true);
        return lowest(thoughts.tenthsOf(asked), 10 * thoughts.allOfOne, part);
    }

    public int likeliest() {
        thoughts.thinkOfOne();
        return thoughts.most();
    }

    public int lacks(int strength) {
        if (strength < 0 || strength > MOST_STRENGTH) {
            return OUTSIDE;
        }
        return thoughts.nodesThatFit(strength);
    }

    // ---- searches

    public int fewest(int what) {
        if (!isPart(what)) {
            return OUTSIDE;
        }
        hunt.solve();
        return what == 0 ? hunt.fewestLids[ways.sources] : hunt.firstOfFewest();
    }

    public int mean(int part) {
        if (!isPart(part)) {
            return OUTSIDE;
        }
        if (ways.sources == 0) {
            return NOT;
        }
        hunt.solve();
        return (int) lowest(hunt.leastSum[ways.sources], ways.likelyOf(ways.sources), part);
    }

    public int soon(int node, int what) {
        if (!isThere(node)) {
            return UNKNOWN;
        }
        if (!isPart(what)) {
            return OUTSIDE;
        }
        hunt.solve();
        return what == 0 ? hunt.leastMinutes[ways.sources * NODES + node] : hunt.nextLid(node, ways.sources);
    }

    public int row(int row, int n, int r, int what) {
        if (n < 1 || n > MOST_LIDS) {
            return OUTSIDE;
        }
        if (!areLids(row, n)) {
            return UNKNOWN;
        }
        if (!isPart(what) || !isShyness(r)) {
            return OUTSIDE;
        }
        return what == 0 ? lids.kindsIn(row, n, r) : lids.largestIn(row, n, r);
    }

    public int answers(int source, int row, int n, int r) {
        if (n < 1 || n > MOST_LIDS) {
            return OUTSIDE;
        }
        if (!isSource(source) || !areLids(row, n)) {
            return UNKNOWN;
        }
        return isShyness(r) ? lids.answersOf(source, row, n, r) : OUTSIDE;
    }

    public int hang(int d) {
        return d < 0 || d > MOST_WALK ? OUTSIDE : lids.fewestToHang(d);
    }

    public int day(int seed, int cup, int what) {
        if (!isCup(cup)) {
            return UNKNOWN;
        }
        if (seed < 0 || seed >= SEEDS || what < 0 || what > 3) {
            return OUTSIDE;
        }
        if (ways.sources == 0) {
            return NOT;
        }
        aDay.go(seed, cup);
        switch (what) {
            case 0: return aDay.minutes;
            case 1: return aDay.guessed;
            case 2: return aDay.source;
            default: return aDay.lifted;
        }
    }

    public int count(int what) {
        switch (what) {
            case 0: return Integer.bitCount(plan.there);
            case 1: return text.length;
            case 2: return Integer.bitCount(ways.sources);
            case 3: return thoughts.size;
            case 4: return plan.lift;
            case 5: return plan.none;
            case 6: return ways.allPaces();
            default: return OUTSIDE;
        }
    }

    // ---- what the calls share

    private void lookAgain() {
        ways.renew();
        water.renew();
        thoughts.doubt();
        hunt.doubt();
    }

    private boolean isThere(int node) {
        return node >= 0 && node < NODES && has(plan.there, node);
    }

    private boolean isSource(int node) {
        return isThere(node) && has(ways.sources, node);
    }

    private boolean areLids(int row, int n) {
        for (int i = 0; i < n; i++) {
            if (!isThere(Lids.lidOf(row, i))) {
                return false;
            }
        }
        return true;
    }

    private boolean canFill(int set, int minute, int n) {
        if (set == 0 || (set & ~plan.there) != 0) {
            return false;
        }
        return isMinute(minute) && n >= 1 && n <= MOST_TIMES && isMinute(minute + (n - 1) * HOUR);
    }

    private static boolean isCup(int cup) {
        return cup >= 0 && cup < CUPS;
    }

    private static boolean isMinute(int minute) {
        return minute >= 0 && minute < MINUTES;
    }

    private static boolean isPart(int part) {
        return part == 0 || part == 1;
    }

    private static boolean isShyness(int r) {
        return r >= -1 && r <= MOST_WALK;
    }

    private static boolean has(int set, int node) {
        return (set >> node & 1) != 0;
    }

    /** Part 0 or 1 of above by below, in lowest terms. */
    private static long lowest(long above, long below, int part) {
        long a = above;
        long b = below;
        // Two rounds at least halve the divisor, so its 63 bits never need as many as the bound.
        for (int round = 0; round < 200 && b != 0; round++) {
            long rest = a % b;
            a = b;
            b = rest;
        }
        if (a == 0) {
            return 0;
        }
        return (part == 0 ? above : below) / a;
    }

    /** The bytes that were written, and the lines that they make. */
    private static final class Text {
        static final int MOST_BYTES = 200, MOST_LINES = 9, MOST_NUMBERS = 5;
        private static final int MOST_DIGITS = 4, BLANK = 32, SEMICOLON = 59;
        // The kinds of lines; the last one is told by none of these: how likely it is that there is no source.
        static final int PIPE = 0, FLOW = 1, SOURCE = 2, GULP = 3, RAIN = 4, CUP = 5, LIFT = 6;
        private static final int KINDS = 8;
        // From BOUND[kind] on, up to BOUND[kind + 1], stand the bounds of the kind's numbers.
        private static final int[] BOUND = {0, 5, 7, 10, 13, 15, 19, 20, 21};
        private static final int[] LEAST = {1, 0, 0, 1, 0, 0, 0, 0, 0, 0, 0, 0, 0, 0, 0, 0, 1, 0, 0, 0, 0};
        private static final int[] MOST = {
            11, 10, 99, 60, 99, 11, 999, 11, 99, 9999, 11, 23, 23, 23, 90, 3, 9999, 9, 9, 60, 99};

        private final int[] bytes = new int[MOST_BYTES];
        private final int[] kinds = new int[MOST_LINES];
        private final int[] numbers = new int[MOST_LINES * MOST_NUMBERS];
        private int length;
        private int lines;
        private int tokenStart;
        private int tokenEnd;

        int append(long more, int n) {
            for (int i = 0; i < n && length < MOST_BYTES; i++) {
                bytes[length] = (int) (more >> 8 * i & 255);
                length++;
            }
            return length;
        }

        int empty() {
            int had = length;
            length = 0;
            return had;
        }

        /** Reads all lines: the place of the first fault, or NONE. */
        int read() {
            lines = 0;
            tokenEnd = 0;
            for (int line = 0; line < MOST_LINES; line++) {
                if (!readLine(line)) {
                    return tokenStart;
                }
                lines = line + 1;
                nextToken();
                if (tokenStart >= length) {
                    return NONE;
                }
                if (bytes[tokenStart] != SEMICOLON) {
                    return tokenStart;
                }
            }
            // The token is the semicolon that would begin one line too many.
            return tokenStart;
        }

        private boolean readLine(int line) {
            nextToken();
            int kind = kindOfToken();
            if (kind == NONE) {
                return false;
            }
            kinds[line] = kind;
            int first = line * MOST_NUMBERS;
            int many = BOUND[kind + 1] - BOUND[kind];
            for (int i = 0; i < many; i++) {
                nextToken();
                int number = numberOfToken();
                int least = kind == GULP && i == 2 ? numbers[first + 1] : LEAST[BOUND[kind] + i];
                int most = kind == PIPE && i == 1 ? numbers[first] - 1 : MOST[BOUND[kind] + i];
                if (number < least || number > most) {
                    return false;
                }
                numbers[first + i] = number;
            }
            return true;
        }

        /** At the end of the text the token is empty and begins at the length. */
        private void nextToken() {
            int at = tokenEnd;
            while (at < length && bytes[at] == BLANK) {
                at++;
            }
            tokenStart = at;
            if (at < length) {
                boolean letters = isLetter(bytes[at]);
                boolean digits = isDigit(bytes[at]);
                at++;
                while (at < length && (letters && isLetter(bytes[at]) || digits && isDigit(bytes[at]))) {
                    at++;
                }
            }
            tokenEnd = at;
        }

        private int kindOfToken() {
            for (int kind = 0; kind < KINDS; kind++) {
                if (tokenIs(wordOf(kind))) {
                    return kind;
                }
            }
            return NONE;
        }

        private boolean tokenIs(String word) {
            if (tokenEnd - tokenStart != word.length()) {
                return false;
            }
            for (int i = 0; i < word.length(); i++) {
                if (bytes[tokenStart + i] != word.charAt(i)) {
                    return false;
                }
            }
            return true;
        }

        /** The number that the token is, or -1, which is below all bounds. */
        private int numberOfToken() {
            int digits = tokenEnd - tokenStart;
            if (digits < 1 || digits > MOST_DIGITS) {
                return -1;
            }
            int number = 0;
            for (int at = tokenStart; at < tokenEnd; at++) {
                if (!isDigit(bytes[at])) {
                    return -1;
                }
                number = number * 10 + bytes[at] - '0';
            }
            return number;
        }

        private static String wordOf(int kind) {
            switch (kind) {
                case PIPE: return "pipe";
                case FLOW: return "flow";
                case SOURCE: return "source";
                case GULP: return "gulp";
                case RAIN: return "rain";
                case CUP: return "cup";
                case LIFT: return "lift";
                default: return "none";
            }
        }

        private static boolean isLetter(int sign) {
            return sign >= 'a' && sign <= 'z';
        }

        private static boolean isDigit(int sign) {
            return sign >= '0' && sign <= '9';
        }
    }

    /** All that lines have told. */
    private static final class Town {
        private final int[] down = new int[NODES];
        private final int[] minutes = new int[NODES];
        private final int[] paces = new int[NODES];
        private final int[] gone = new int[NODES];
        private final int[] inflow = new int[NODES];
        private final int[] likely = new int[NODES];
        private final int[] strength = new int[NODES];
        private final int[] from = new int[NODES];
        private final int[] until = new int[NODES];
        private final int[] rain = new int[HOURS];
        private final int[] tells = new int[CUPS];
        private final int[] wrongYes = new int[CUPS];
        private final int[] wrongNo = new int[CUPS];
        private int there = 1;
        private int lift;
        private int none;

        Town() {
            for (int node = 0; node < NODES; node++) {
                down[node] = NONE;
                until[node] = HOURS - 1;
            }
            for (int cup = 0; cup < CUPS; cup++) {
                tells[cup] = 1;
            }
        }

        /** Does one line, whose numbers the text has held against their bounds. */
        void tell(int kind, int[] numbers, int first) {
            if (first < 0 || first + Text.MOST_NUMBERS > numbers.length) {
                return;
            }
            int a = numbers[first];
            int b = numbers[first + 1];
            int c = numbers[first + 2];
            int d = numbers[first + 3];
            switch (kind) {
                case Text.PIPE: layFrom(a, b, c, d, numbers[first + 4]); break;
                case Text.FLOW: inflow[a] = b; break;
                case Text.SOURCE: letIn(a, b, c); break;
                case Text.GULP: openBetween(a, b, c); break;
                case Text.RAIN: rain[a] = b; break;
                case Text.CUP: giveCup(a, b, c, d); break;
                case Text.LIFT: lift = a; break;
                default: none = a; break;
            }
        }

        private void layFrom(int node, int to, int takes, int walked, int lost) {
            if (!has(there, to)) {
                lay(to, 0, 0, 1, 0);
            }
            lay(node, to, takes, walked, lost);
        }

        private void lay(int node, int to, int takes, int walked, int lost) {
            there |= 1 << node;
            down[node] = to;
            minutes[node] = takes;
            paces[node] = walked;
            gone[node] = lost;
        }

        private void letIn(int node, int asLikely, int asStrong) {
            likely[node] = asLikely;
            strength[node] = asStrong;
            openBetween(node, 0, HOURS - 1);
        }

        private void openBetween(int node, int first, int last) {
            from[node] = first;
            until[node] = last;
        }

        private void giveCup(int cup, int least, int yesTenths, int noTenths) {
            tells[cup] = least;
            wrongYes[cup] = yesTenths;
            wrongNo[cup] = noTenths;
        }
    }

    /** What follows from how the pipes lie: sets of nodes, by bits, and walks. */
    private static final class Ways {
        private final Town plan;
        private final int[] over = new int[NODES];
        private int sources;

        Ways(Town plan) {
            this.plan = plan;
        }

        void renew() {
            sources = 0;
            for (int node = 0; node < NODES; node++) {
                over[node] = 0;
            }
            for (int node = 0; node < NODES; node++) {
                if (has(plan.there, node)) {
                    standOverAllBelow(node);
                    sources |= plan.likely[node] > 0 ? 1 << node : 0;
                }
            }
        }

        private void standOverAllBelow(int node) {
            int at = node;
            for (int step = 0; step < NODES && at >= 0; step++) {
                over[at] |= 1 << node;
                at = plan.down[at];
            }
        }

        /** Pipes go down to lesser nodes, so the greater of two unlike ones is never on the other's way. */
        int minutesBetween(int a, int b) {
            int sum = 0;
            int one = a;
            int other = b;
            for (int step = 0; step < 2 * NODES && one != other; step++) {
                if (one > other) {
                    sum += plan.paces[one];
                    one = plan.down[one];
                } else {
                    sum += plan.paces[other];
                    other = plan.down[other];
                }
            }
            return sum;
        }

        int likelyOf(int set) {
            int sum = 0;
            for (int node = 0; node < NODES; node++) {
                sum += has(set, node) ? plan.likely[node] : 0;
            }
            return sum;
        }

        int allPaces() {
            int sum = 0;
            for (int node = 0; node < NODES; node++) {
                sum += has(plan.there, node) ? plan.paces[node] : 0;
            }
            return sum;
        }
    }

    /** What one source lets in, followed on its way down. */
    private static final class Stream {
        private final int[] left = new int[NODES];
        private final int[] takes = new int[NODES];
        private int from;
        private int until;

        void follow(Town plan, int node, int strength, int first, int last) {
            from = first;
            until = last;
            for (int other = 0; other < NODES; other++) {
                left[other] = 0;
                takes[other] = 0;
            }
            int rest = strength;
            int minutes = 0;
            int at = node;
            for (int step = 0; step < NODES && at >= 0; step++) {
                left[at] = rest;
                takes[at] = minutes;
                rest = rest * (100 - plan.gone[at]) / 100;
                minutes += plan.minutes[at];
                at = plan.down[at];
            }
        }

        int amountAt(int node, int minute) {
            int letIn = minute - takes[node];
            if (letIn < from * HOUR || letIn >= (until + 1) * HOUR) {
                return 0;
            }
            return left[node];
        }
    }

    /** A cup filled at a set of nodes, and each hour later. */
    private static final class Filling {
        private int cup;
        private int set;
        private int minute;
        private int times;
        private boolean yes;

        void put(int cup, int set, int minute, int times, boolean yes) {
            this.cup = cup;
            this.set = set;
            this.minute = minute;
            this.times = times;
            this.yes = yes;
        }
    }

    /** What flows at the nodes, and what of sources is in it. */
    private static final class Water {
        private final Town plan;
        private final Ways ways;
        private final int[] gathered = new int[NODES];
        private final Stream[] streams = new Stream[NODES];

        Water(Town plan, Ways ways) {
            this.plan = plan;
            this.ways = ways;
            for (int node = 0; node < NODES; node++) {
                streams[node] = new Stream();
            }
        }

        void renew() {
            for (int node = 0; node < NODES; node++) {
                gathered[node] = inflowOf(ways.over[node]);
                if (has(plan.there, node)) {
                    streams[node].follow(plan, node, plan.strength[node], plan.from[node], plan.until[node]);
                }
            }
        }

        private int inflowOf(int set) {
            int sum = 0;
            for (int node = 0; node < NODES; node++) {
                sum += has(set, node) ? plan.inflow[node] : 0;
            }
            return sum;
        }

        int flowAt(int node, int hour) {
            int flow = gathered[node] * (10 + plan.rain[hour]) / 10;
            return flow < 1 ? 1 : flow;
        }

        /** Of one stream or of two; either may be null, which lets in nothing. */
        int thinAt(int node, int minute, Stream one, Stream other) {
            int amount = 0;
            if (one != null) {
                amount += one.amountAt(node, minute);
            }
            if (other != null) {
                amount += other.amountAt(node, minute);
            }
            return 1000 * amount / flowAt(node, minute / HOUR);
        }

        boolean shouldSayYes(Filling filling, Stream one, Stream other) {
            if (one == null && other == null) {
                return false;
            }
            for (int time = 0; time < filling.times; time++) {
                int minute = filling.minute + time * HOUR;
                if (pouredTogether(filling.set, minute, one, other) >= plan.tells[filling.cup]) {
                    return true;
                }
            }
            return false;
        }

        private int pouredTogether(int set, int minute, Stream one, Stream other) {
            int sum = 0;
            int nodes = 0;
            for (int node = 0; node < NODES; node++) {
                if (has(set, node)) {
                    sum += thinAt(node, minute, one, other);
                    nodes++;
                }
            }
            return sum / Math.max(1, nodes);
        }
    }

    /** What cups were found to say, and what is thought by it; thought anew only when that or the town changed. */
    private static final class Thoughts {
        private final Town plan;
        private final Ways ways;
        private final Water water;
        private final Filling[] fillings = new Filling[MOST_FOUND];
        private final Stream trial = new Stream();
        private final long[] ofOne = new long[NODES];
        private final long[] ofTwo = new long[NODES * NODES];
        private long ofNone;
        private long allOfOne;
        private long allOfTwo;
        private boolean knowsOne;
        private boolean knowsTwo;
        private int size;

        Thoughts(Town plan, Ways ways, Water water) {
            this.plan = plan;
            this.ways = ways;
            this.water = water;
            for (int i = 0; i < MOST_FOUND; i++) {
                fillings[i] = new Filling();
            }
        }

        void doubt() {
            knowsOne = false;
            knowsTwo = false;
        }

        int keep(int cup, int set, int minute, int times, boolean yes) {
            if (size < MOST_FOUND) {
                fillings[size].put(cup, set, minute, times, yes);
                size++;
                doubt();
            }
            return size;
        }

        int drop() {
            int had = size;
            size = 0;
            doubt();
            return had;
        }

        void thinkOfOne() {
            if (knowsOne) {
                return;
            }
            ofNone = thoughtBy(plan.none, null, null);
            allOfOne = ofNone;
            for (int node = 0; node < NODES; node++) {
                ofOne[node] = 0;
                if (has(ways.sources, node)) {
                    ofOne[node] = thoughtBy(plan.likely[node], water.streams[node], null);
                    allOfOne += ofOne[node];
                }
            }
            knowsOne = true;
        }

        void thinkOfTwo() {
            if (knowsTwo) {
                return;
            }
            allOfTwo = 0;
            for (int a = 0; a < NODES; a++) {
                for (int b = 0; b < a; b++) {
                    if (has(ways.sources, a) && has(ways.sources, b)) {
                        long likely = plan.likely[a] * plan.likely[b];
                        long thought = thoughtBy(likely, water.streams[a], water.streams[b]);
                        ofTwo[a * NODES + b] = thought;
                        ofTwo[b * NODES + a] = thought;
                        allOfTwo += thought;
                    }
                }
            }
            knowsTwo = true;
        }

        private long thoughtBy(long likely, Stream one, Stream other) {
            long thought = likely;
            for (int i = 0; i < size && thought != 0; i++) {
                Filling filling = fillings[i];
                thought *= tenthsToSay(filling, water.shouldSayYes(filling, one, other));
            }
            return thought;
        }

        private int tenthsToSay(Filling filling, boolean shouldBeYes) {
            int forYes = shouldBeYes ? 10 - plan.wrongNo[filling.cup] : plan.wrongYes[filling.cup];
            return filling.yes ? forYes : 10 - forYes;
        }

        /** Together, each thought times the tenths by which the cup would say what the filling tells. */
        long tenthsOf(Filling filling) {
            long sum = ofNone * tenthsToSay(filling, false);
            for (int node = 0; node < NODES; node++) {
                if (ofOne[node] != 0) {
                    boolean yes = water.shouldSayYes(filling, water.streams[node], null);
                    sum += ofOne[node] * tenthsToSay(filling, yes);
                }
            }
            return sum;
        }

        int most() {
            int best = NONE;
            long thought = ofNone;
            for (int node = 0; node < NODES; node++) {
                if (ofOne[node] > thought) {
                    best = node;
                    thought = ofOne[node];
                }
            }
            return best;
        }

        int nodesThatFit(int strength) {
            int fit = 0;
            for (int node = 0; node < NODES; node++) {
                if (has(plan.there, node)) {
                    trial.follow(plan, node, strength, 0, HOURS - 1);
                    fit |= trialFits() ? 1 << node : 0;
                }
            }
            return fit;
        }

        private boolean trialFits() {
            for (int i = 0; i < size; i++) {
                if (water.shouldSayYes(fillings[i], trial, null) != fillings[i].yes) {
                    return false;
                }
            }
            return true;
        }
    }

    /** The best orders of lids, for each set of sources that may be left. */
    private static final class Hunt {
        private static final int FAR = 1000000, NEVER = -1;

        private final Town plan;
        private final Ways ways;
        private int[] fewestLids = new int[0];
        private int[] leastSum = new int[0];
        private int[] leastMinutes = new int[0];
        private boolean solved;

        Hunt(Town plan, Ways ways) {
            this.plan = plan;
            this.ways = ways;
        }

        void doubt() {
            solved = false;
        }

        void solve() {
            if (solved) {
                return;
            }
            int all = ways.sources;
            makeRoomFor(all);
            markWhatMayBeLeft(all);
            // What a lid leaves of a set is a part of it, and so a lesser number, which is solved ahead of it.
            for (int set = 0; set <= all; set++) {
                if (fewestLids[set] != NEVER) {
                    solveFor(set);
                }
            }
            solved = true;
        }

        /** Of all sets of sources answers can leave but few, if the pipes lie in long ways. */
        private void markWhatMayBeLeft(int all) {
            for (int set = 0; set <= all; set++) {
                fewestLids[set] = NEVER;
            }
            fewestLids[all] = FAR;
            for (int set = all; set > 0; set--) {
                if (fewestLids[set] != NEVER) {
                    markPartsOf(set);
                }
            }
        }

        private void markPartsOf(int set) {
            for (int lid = 0; lid < NODES; lid++) {
                if (splits(lid, set)) {
                    int yes = set & ways.over[lid];
                    fewestLids[yes] = FAR;
                    fewestLids[set ^ yes] = FAR;
                }
            }
        }

        /** Rows for all sets at once would be by far the dearest of an object, and few towns need them. */
        private void makeRoomFor(int all) {
            int sets = 1;
            for (int node = 0; node < NODES && sets <= all; node++) {
                sets *= 2;
            }
            if (sets > fewestLids.length) {
                fewestLids = new int[sets];
                leastSum = new int[sets];
                leastMinutes = new int[sets * NODES];
            }
        }

        private void solveFor(int set) {
            boolean known = Integer.bitCount(set) <= 1;
            int first = set * NODES;
            for (int node = 0; node < NODES; node++) {
                leastMinutes[first + node] = known ? 0 : FAR;
            }
            int lids = FAR;
            int sum = FAR;
            for (int lid = 0; lid < NODES && !known; lid++) {
                if (splits(lid, set)) {
                    int yes = set & ways.over[lid];
                    lids = Math.min(lids, lidsBy(lid, set));
                    sum = Math.min(sum, leastSum[yes] + leastSum[set ^ yes]);
                    leastMinutes[first + lid] = minutesBy(lid, set);
                }
            }
            fewestLids[set] = known ? 0 : lids;
            leastSum[set] = known ? 0 : sum + ways.likelyOf(set);
            if (!known) {
                walkToLids(first);
            }
        }

        /** From the minutes at each lid to those from each node: the best way comes up to it, or down. */
        private void walkToLids(int first) {
            for (int node = NODES - 1; node > 0; node--) {
                shorten(first, plan.down[node], node, plan.paces[node]);
            }
            for (int node = 1; node < NODES; node++) {
                shorten(first, node, plan.down[node], plan.paces[node]);
            }
        }

        private void shorten(int first, int at, int by, int walk) {
            if (at >= 0 && by >= 0) {
                leastMinutes[first + at] = Math.min(leastMinutes[first + at], leastMinutes[first + by] + walk);
            }
        }

        /** A lid that tells nothing is never lifted: a search of such lids need not end. */
        private boolean splits(int lid, int set) {
            int yes = set & ways.over[lid];
            return yes != 0 && yes != set;
        }

        private int lidsBy(int lid, int set) {
            int yes = set & ways.over[lid];
            return 1 + Math.max(fewestLids[yes], fewestLids[set ^ yes]);
        }

        /** For one who stands at the lid. */
        private int minutesBy(int lid, int set) {
            int yes = set & ways.over[lid];
            int ifYes = leastMinutes[yes * NODES + lid];
            int ifNo = leastMinutes[(set ^ yes) * NODES + lid];
            return plan.lift + Math.max(ifYes, ifNo);
        }

        int firstOfFewest() {
            int set = ways.sources;
            for (int lid = 0; lid < NODES; lid++) {
                if (splits(lid, set) && lidsBy(lid, set) == fewestLids[set]) {
                    return lid;
                }
            }
            return NONE;
        }

        int nextLid(int from, int set) {
            for (int lid = 0; lid < NODES; lid++) {
                if (splits(lid, set)) {
                    int minutes = ways.minutesBetween(from, lid) + minutesBy(lid, set);
                    if (minutes == leastMinutes[set * NODES + from]) {
                        return lid;
                    }
                }
            }
            return NONE;
        }
    }

    /** Rows of lids told by hand, and cups that always hang. */
    private static final class Lids {
        private static final int MOST_PAIRS = NODES * (NODES - 1) / 2;

        private final Town plan;
        private final Ways ways;
        private final int[] kinds = new int[NODES];
        private final int[] unlikeBy = new int[MOST_PAIRS];

        Lids(Town plan, Ways ways) {
            this.plan = plan;
            this.ways = ways;
        }

        static int lidOf(int row, int i) {
            return row >> 4 * i & 15;
        }

        int answersOf(int source, int row, int n, int r) {
            int answers = 0;
            for (int i = 0; i < n; i++) {
                int lid = lidOf(row, i);
                answers |= has(ways.over[lid], source) ? 1 << i : 0;
                if (ways.minutesBetween(source, lid) <= r) {
                    break;
                }
            }
            return answers;
        }

        int kindsIn(int row, int n, int r) {
            int sources = answerAll(row, n, r);
            int unlike = 0;
            for (int i = 0; i < sources; i++) {
                unlike += likeAhead(i, i) == 0 ? 1 : 0;
            }
            return unlike;
        }

        int largestIn(int row, int n, int r) {
            int sources = answerAll(row, n, r);
            int largest = 0;
            for (int i = 0; i < sources; i++) {
                largest = Math.max(largest, likeAhead(i, sources));
            }
            return largest;
        }

        private int answerAll(int row, int n, int r) {
            int sources = 0;
            for (int node = 0; node < NODES; node++) {
                if (has(ways.sources, node)) {
                    kinds[sources] = answersOf(node, row, n, r);
                    sources++;
                }
            }
            return sources;
        }

        private int likeAhead(int i, int end) {
            int like = 0;
            for (int j = 0; j < end; j++) {
                like += kinds[j] == kinds[i] ? 1 : 0;
            }
            return like;
        }

        int fewestToHang(int d) {
            int pairs = pairsFartherThan(d);
            int best = plan.there;
            int fewest = Integer.bitCount(best);
            // Ascending, so that of the fewest the least number is met first.
            for (int set = 0; set < plan.there; set++) {
                boolean there = (set & ~plan.there) == 0;
                if (there && Integer.bitCount(set) < fewest && tellsApart(set, pairs)) {
                    best = set;
                    fewest = Integer.bitCount(set);
                }
            }
            return best;
        }

        private boolean tellsApart(int set, int pairs) {
            for (int i = 0; i < pairs; i++) {
                if ((unlikeBy[i] & set) == 0) {
                    return false;
                }
            }
            return true;
        }

        private int pairsFartherThan(int d) {
            int pairs = 0;
            for (int a = 0; a < NODES; a++) {
                for (int b = 0; b < a; b++) {
                    if (has(ways.sources, a) && has(ways.sources, b) && ways.minutesBetween(a, b) > d) {
                        unlikeBy[pairs] = nodesBelowOne(a, b);
                        pairs++;
                    }
                }
            }
            return pairs;
        }

        private int nodesBelowOne(int a, int b) {
            int nodes = 0;
            for (int node = 0; node < NODES; node++) {
                nodes |= has(ways.over[node], a) != has(ways.over[node], b) ? 1 << node : 0;
            }
            return nodes;
        }
    }

    /** One day's search, its source and its errors by draws. */
    private static final class DayWalk {
        private final Town plan;
        private final Ways ways;
        private final Hunt hunt;
        private int seed;
        private int minutes;
        private int guessed;
        private int source;
        private int lifted;

        DayWalk(Town plan, Ways ways, Hunt hunt) {
            this.plan = plan;
            this.ways = ways;
            this.hunt = hunt;
        }

        void go(int firstSeed, int cup) {
            hunt.solve();
            seed = firstSeed;
            minutes = 0;
            lifted = 0;
            source = drawSource();
            int left = ways.sources;
            int at = 0;
            for (int i = 0; i < NODES && Integer.bitCount(left) > 1; i++) {
                int lid = hunt.nextLid(at, left);
                if (lid == NONE) {
                    break;
                }
                minutes += ways.minutesBetween(at, lid) + plan.lift;
                lifted++;
                at = lid;
                left &= drawAnswer(lid, cup) ? ways.over[lid] : ~ways.over[lid];
            }
            guessed = leastOf(left);
        }

        private static int leastOf(int set) {
            for (int node = 0; node < NODES; node++) {
                if (has(set, node)) {
                    return node;
                }
            }
            return NONE;
        }

        private int draw() {
            seed = seed * 25173 + 13849 & SEEDS - 1;
            return seed / 64;
        }

        private int drawSource() {
            int rest = draw() % Math.max(1, ways.likelyOf(ways.sources));
            for (int node = 0; node < NODES; node++) {
                if (has(ways.sources, node)) {
                    rest -= plan.likely[node];
                    if (rest < 0) {
                        return node;
                    }
                }
            }
            return NONE;
        }

        private boolean drawAnswer(int lid, int cup) {
            boolean right = has(ways.over[lid], source);
            int wrong = right ? plan.wrongNo[cup] : plan.wrongYes[cup];
            return draw() % 10 < wrong ? !right : right;
        }
    }
}
