import java.math.BigInteger;
import java.util.ArrayList;
import java.util.HashMap;
import java.util.HashSet;
import java.util.List;
import java.util.Map;
import java.util.Set;
import java.util.TreeMap;
import java.util.TreeSet;
import java.util.regex.Matcher;
import java.util.regex.Pattern;

/**
 * The document once more, as plainly as it can be said and without regard to cost, to hold the class against:
 * nothing is kept but what was told, and every answer is worked out anew.
 */
final class Model {
    static final int NONE = -1, UNKNOWN = -2, OUTSIDE = -3, NOT = -4, FULL = -5;

    private static final class Pipe {
        final int down, minutes, walk, gone;

        Pipe(int down, int minutes, int walk, int gone) {
            this.down = down;
            this.minutes = minutes;
            this.walk = walk;
            this.gone = gone;
        }
    }

    private static final class Source {
        int likely = 0, strength = 0, from = 0, to = 23;
    }

    private static final class Cup {
        int tells = 1, a = 0, b = 0;
    }

    private static final class Found {
        final int cup, set, minute, n;
        final boolean yes;

        Found(int cup, int set, int minute, int n, boolean yes) {
            this.cup = cup;
            this.set = set;
            this.minute = minute;
            this.n = n;
            this.yes = yes;
        }
    }

    private final StringBuilder text = new StringBuilder();
    private final Map<Integer, Pipe> pipes = new TreeMap<>();
    private final int[] flows = new int[12];
    private final Source[] told = new Source[12];
    private final int[] rains = new int[24];
    private final Cup[] cups = new Cup[4];
    private final List<Found> found = new ArrayList<>();
    private int lift = 0;
    private int none = 0;

    Model() {
        for (int i = 0; i < 12; i++) {
            told[i] = new Source();
        }
        for (int i = 0; i < 4; i++) {
            cups[i] = new Cup();
        }
    }

    // ---- the text

    int write(long bytes, int n) {
        if (n < 1 || n > 8) {
            return OUTSIDE;
        }
        if (text.length() + n > 200) {
            return FULL;
        }
        for (int i = 0; i < n; i++) {
            text.append((char) (bytes >> 8 * i & 255));
        }
        return text.length();
    }

    int erase() {
        int had = text.length();
        text.setLength(0);
        return had;
    }

    private static final class Reader {
        final List<String> tokens = new ArrayList<>();
        final List<Integer> places = new ArrayList<>();
        final List<int[]> lines = new ArrayList<>();
        int next = 0;

        Reader(String text) {
            Matcher m = Pattern.compile("[a-z]+|[0-9]+|[^ ]", Pattern.DOTALL).matcher(text);
            while (m.find()) {
                tokens.add(m.group());
                places.add(m.start());
            }
            tokens.add("");
            places.add(text.length());
        }

        /** Where the fault is, or NONE. */
        int read() {
            while (true) {
                int[] line = line();
                if (line == null) {
                    return places.get(next);
                }
                lines.add(line);
                if (tokens.get(next).isEmpty()) {
                    return NONE;
                }
                if (!tokens.get(next).equals(";") || lines.size() == 9) {
                    return places.get(next);
                }
                next++;
            }
        }

        /** The line's word by its place in this list, and its numbers; null if it has a fault at next. */
        private int[] line() {
            List<String> words = List.of("pipe", "flow", "source", "gulp", "rain", "cup", "lift", "none");
            int[][][] bounds = {
                {{1, 11}, {0, 10}, {0, 99}, {1, 60}, {0, 99}}, {{0, 11}, {0, 999}}, {{0, 11}, {0, 99}, {0, 9999}},
                {{0, 11}, {0, 23}, {0, 23}}, {{0, 23}, {0, 90}}, {{0, 3}, {1, 9999}, {0, 9}, {0, 9}},
                {{0, 60}}, {{0, 99}}};
            int word = words.indexOf(tokens.get(next));
            if (word < 0) {
                return null;
            }
            next++;
            int[] line = new int[6];
            line[0] = word;
            for (int i = 0; i < bounds[word].length; i++) {
                if (!tokens.get(next).matches("[0-9]{1,4}")) {
                    return null;
                }
                int number = Integer.parseInt(tokens.get(next));
                if (number < bounds[word][i][0] || number > bounds[word][i][1]) {
                    return null;
                }
                if (word == 0 && i == 1 && number >= line[1]) {
                    return null;
                }
                if (word == 3 && i == 2 && number < line[2]) {
                    return null;
                }
                line[i + 1] = number;
                next++;
            }
            return line;
        }
    }

    int fault() {
        return new Reader(text.toString()).read();
    }

    int town() {
        Reader reader = new Reader(text.toString());
        if (reader.read() != NONE) {
            return NOT;
        }
        for (int[] line : reader.lines) {
            done(line);
        }
        text.setLength(0);
        return reader.lines.size();
    }

    private void done(int[] line) {
        if (line[0] == 0) {
            if (!isThere(line[2])) {
                pipes.put(line[2], new Pipe(0, 0, 1, 0));
            }
            pipes.put(line[1], new Pipe(line[2], line[3], line[4], line[5]));
        } else if (line[0] == 1) {
            flows[line[1]] = line[2];
        } else if (line[0] == 2) {
            told[line[1]] = new Source();
            told[line[1]].likely = line[2];
            told[line[1]].strength = line[3];
        } else if (line[0] == 3) {
            told[line[1]].from = line[2];
            told[line[1]].to = line[3];
        } else if (line[0] == 4) {
            rains[line[1]] = line[2];
        } else if (line[0] == 5) {
            cups[line[1]].tells = line[2];
            cups[line[1]].a = line[3];
            cups[line[1]].b = line[4];
        } else if (line[0] == 6) {
            lift = line[1];
        } else {
            none = line[1];
        }
    }

    // ---- the town

    private boolean isThere(int node) {
        return node == 0 || pipes.containsKey(node);
    }

    private Set<Integer> nodes() {
        Set<Integer> nodes = new TreeSet<>(pipes.keySet());
        nodes.add(0);
        return nodes;
    }

    private List<Integer> wayDown(int node) {
        List<Integer> way = new ArrayList<>();
        way.add(node);
        while (node != 0) {
            node = pipes.get(node).down;
            way.add(node);
        }
        return way;
    }

    private boolean isAbove(int upper, int lower) {
        return wayDown(upper).contains(lower);
    }

    private List<Integer> sources() {
        List<Integer> sources = new ArrayList<>();
        for (int node : nodes()) {
            if (told[node].likely > 0) {
                sources.add(node);
            }
        }
        return sources;
    }

    int of(int node, int what) {
        if (!isThere(node)) {
            return UNKNOWN;
        }
        if (what < 0 || what > 8) {
            return OUTSIDE;
        }
        Pipe pipe = node == 0 ? new Pipe(NONE, 0, 0, 0) : pipes.get(node);
        Source s = told[node];
        return new int[] {pipe.down, pipe.minutes, pipe.walk, pipe.gone, flows[node], s.likely, s.strength, s.from, s.to}[what];
    }

    int cup(int cup, int what) {
        if (cup < 0 || cup > 3) {
            return UNKNOWN;
        }
        if (what < 0 || what > 2) {
            return OUTSIDE;
        }
        return new int[] {cups[cup].tells, cups[cup].a, cups[cup].b}[what];
    }

    int above(int node) {
        if (!isThere(node)) {
            return UNKNOWN;
        }
        int bits = 0;
        for (int other : nodes()) {
            if (isAbove(other, node)) {
                bits |= 1 << other;
            }
        }
        return bits;
    }

    int walk(int a, int b) {
        if (!isThere(a) || !isThere(b)) {
            return UNKNOWN;
        }
        Set<Integer> once = new HashSet<>(wayDown(a));
        Set<Integer> both = new HashSet<>(once);
        both.retainAll(wayDown(b));
        once.addAll(wayDown(b));
        once.removeAll(both);
        int minutes = 0;
        for (int node : once) {
            minutes += pipes.get(node).walk;
        }
        return minutes;
    }

    // ---- what comes

    int flow(int node, int hour) {
        if (!isThere(node)) {
            return UNKNOWN;
        }
        if (hour < 0 || hour > 23) {
            return OUTSIDE;
        }
        int all = 0;
        for (int other : nodes()) {
            all += isAbove(other, node) ? flows[other] : 0;
        }
        int flow = all * (10 + rains[hour]) / 10;
        return flow < 1 ? 1 : flow;
    }

    private int amount(int node, Source source, int to, int minute) {
        int left = source.strength;
        int then = minute;
        for (int at : wayDown(node)) {
            if (at == to) {
                return then >= 0 && then / 60 >= source.from && then / 60 <= source.to ? left : 0;
            }
            left = left * (100 - of(at, 3)) / 100;
            then -= of(at, 1);
        }
        return 0;
    }

    int comes(int source, int node, int minute, int what) {
        if (!isThere(source) || !isThere(node)) {
            return UNKNOWN;
        }
        if (minute < 0 || minute > 1439 || what < 0 || what > 1) {
            return OUTSIDE;
        }
        int amount = amount(source, told[source], node, minute);
        return what == 0 ? amount : 1000 * amount / flow(node, minute / 60);
    }

    /** Whether the cup should say yes by all these sources together. */
    private boolean shouldBe(int cup, int set, int minute, int n, Map<Integer, Source> by) {
        for (int i = 0; i < n; i++) {
            int then = minute + 60 * i;
            int thins = 0;
            int many = 0;
            for (int node = 0; node < 12; node++) {
                if ((set >> node & 1) == 1) {
                    int amount = 0;
                    for (Map.Entry<Integer, Source> s : by.entrySet()) {
                        amount += amount(s.getKey(), s.getValue(), node, then);
                    }
                    thins += 1000 * amount / flow(node, then / 60);
                    many++;
                }
            }
            if (thins / many >= cups[cup].tells) {
                return true;
            }
        }
        return false;
    }

    private boolean isFilling(int set, int minute, int n) {
        for (int i = 0; i < 32; i++) {
            if ((set >> i & 1) == 1 && !isThere(i)) {
                return false;
            }
        }
        return set != 0 && minute >= 0 && minute < 1440 && n >= 1 && n <= 6 && minute + 60 * (n - 1) < 1440;
    }

    int should(int source, int cup, int set, int minute, int n) {
        if (!isThere(source) || cup < 0 || cup > 3) {
            return UNKNOWN;
        }
        if (!isFilling(set, minute, n)) {
            return OUTSIDE;
        }
        return shouldBe(cup, set, minute, n, Map.of(source, told[source])) ? 1 : 0;
    }

    // ---- what is thought

    int found(int cup, int set, int minute, int n, boolean yes) {
        if (cup < 0 || cup > 3) {
            return UNKNOWN;
        }
        if (!isFilling(set, minute, n)) {
            return OUTSIDE;
        }
        if (found.size() == 10) {
            return FULL;
        }
        found.add(new Found(cup, set, minute, n, yes));
        return found.size();
    }

    int forget() {
        int had = found.size();
        found.clear();
        return had;
    }

    private int tenths(Found f, Map<Integer, Source> by) {
        boolean should = shouldBe(f.cup, f.set, f.minute, f.n, by);
        Cup cup = cups[f.cup];
        if (should) {
            return f.yes ? 10 - cup.b : cup.b;
        }
        return f.yes ? cup.a : 10 - cup.a;
    }

    private BigInteger thought(long likely, Map<Integer, Source> by) {
        BigInteger thought = BigInteger.valueOf(likely);
        for (Found f : found) {
            thought = thought.multiply(BigInteger.valueOf(tenths(f, by)));
        }
        return thought;
    }

    private BigInteger thoughtOf(int source) {
        if (source == NONE) {
            return thought(none, Map.of());
        }
        return thought(told[source].likely, Map.of(source, told[source]));
    }

    private BigInteger allThought() {
        BigInteger all = thoughtOf(NONE);
        for (int source : sources()) {
            all = all.add(thoughtOf(source));
        }
        return all;
    }

    private static long part(BigInteger above, BigInteger below, int part) {
        BigInteger common = above.gcd(below);
        return (part == 0 ? above : below).divide(common).longValueExact();
    }

    long chance(int source, int part) {
        if (source != NONE && !sources().contains(source)) {
            return UNKNOWN;
        }
        if (part < 0 || part > 1) {
            return OUTSIDE;
        }
        BigInteger all = allThought();
        return all.signum() == 0 ? NOT : part(thoughtOf(source), all, part);
    }

    private BigInteger thoughtOfPair(int a, int b) {
        return thought((long) told[a].likely * told[b].likely, Map.of(a, told[a], b, told[b]));
    }

    long two(int a, int b, int part) {
        List<Integer> sources = sources();
        if (!sources.contains(a) || !sources.contains(b) || a == b) {
            return UNKNOWN;
        }
        if (part < 0 || part > 1) {
            return OUTSIDE;
        }
        BigInteger all = BigInteger.ZERO;
        for (int one : sources) {
            for (int other : sources) {
                if (one < other) {
                    all = all.add(thoughtOfPair(one, other));
                }
            }
        }
        return all.signum() == 0 ? NOT : part(thoughtOfPair(a, b), all, part);
    }

    long worth(int cup, int set, int minute, int n, int part) {
        if (cup < 0 || cup > 3) {
            return UNKNOWN;
        }
        if (!isFilling(set, minute, n) || part < 0 || part > 1) {
            return OUTSIDE;
        }
        BigInteger all = allThought();
        if (all.signum() == 0) {
            return NOT;
        }
        Found f = new Found(cup, set, minute, n, true);
        BigInteger yes = thoughtOf(NONE).multiply(BigInteger.valueOf(tenths(f, Map.of())));
        for (int source : sources()) {
            int tenths = tenths(f, Map.of(source, told[source]));
            yes = yes.add(thoughtOf(source).multiply(BigInteger.valueOf(tenths)));
        }
        return part(yes, all.multiply(BigInteger.TEN), part);
    }

    int likeliest() {
        int likeliest = NONE;
        for (int source : sources()) {
            if (thoughtOf(source).compareTo(thoughtOf(likeliest)) > 0) {
                likeliest = source;
            }
        }
        return likeliest;
    }

    int lacks(int strength) {
        if (strength < 0 || strength > 9999) {
            return OUTSIDE;
        }
        int bits = 0;
        for (int node : nodes()) {
            Source source = new Source();
            source.strength = strength;
            boolean all = true;
            for (Found f : found) {
                all &= shouldBe(f.cup, f.set, f.minute, f.n, Map.of(node, source)) == f.yes;
            }
            bits |= all ? 1 << node : 0;
        }
        return bits;
    }

    // ---- searches

    /** Those of the set that are above the lid, or those that are not; the set is by bits. */
    private int left(int set, int lid, boolean yes) {
        int left = 0;
        for (int node = 0; node < 12; node++) {
            if ((set >> node & 1) == 1 && isAbove(node, lid) == yes) {
                left |= 1 << node;
            }
        }
        return left;
    }

    private int allSources() {
        int set = 0;
        for (int source : sources()) {
            set |= 1 << source;
        }
        return set;
    }

    /** The least of what a lid costs, and the least lid of that cost, by the way that costs are counted. */
    private final class Search {
        final boolean mean, minutes;
        final Map<Integer, int[]> known = new HashMap<>();

        Search(boolean mean, boolean minutes) {
            this.mean = mean;
            this.minutes = minutes;
        }

        int[] best(int at, int set) {
            int[] best = {0, NONE};
            if (Integer.bitCount(set) < 2) {
                return best;
            }
            int key = set * 12 + (minutes ? at : 0);
            if (known.containsKey(key)) {
                return known.get(key);
            }
            best[0] = Integer.MAX_VALUE;
            for (int lid : nodes()) {
                int yes = left(set, lid, true);
                int no = left(set, lid, false);
                if (yes != 0 && no != 0) {
                    int a = best(lid, yes)[0];
                    int b = best(lid, no)[0];
                    int cost = mean ? a + b + likelyOf(set) : Math.max(a, b) + (minutes ? walk(at, lid) + lift : 1);
                    if (cost < best[0]) {
                        best = new int[] {cost, lid};
                    }
                }
            }
            known.put(key, best);
            return best;
        }
    }

    private int likelyOf(int set) {
        int sum = 0;
        for (int node = 0; node < 12; node++) {
            sum += (set >> node & 1) == 1 ? told[node].likely : 0;
        }
        return sum;
    }

    int fewest(int what) {
        if (what < 0 || what > 1) {
            return OUTSIDE;
        }
        return new Search(false, false).best(0, allSources())[what];
    }

    int mean(int part) {
        if (part < 0 || part > 1) {
            return OUTSIDE;
        }
        int set = allSources();
        if (set == 0) {
            return NOT;
        }
        int sum = new Search(true, false).best(0, set)[0];
        return (int) part(BigInteger.valueOf(sum), BigInteger.valueOf(likelyOf(set)), part);
    }

    int soon(int node, int what) {
        if (!isThere(node)) {
            return UNKNOWN;
        }
        if (what < 0 || what > 1) {
            return OUTSIDE;
        }
        return new Search(false, true).best(node, allSources())[what];
    }

    private String answersTo(int source, int row, int n, int r) {
        StringBuilder answers = new StringBuilder();
        boolean stopped = false;
        for (int i = 0; i < n; i++) {
            int lid = row >> 4 * i & 15;
            answers.insert(0, !stopped && isAbove(source, lid) ? '1' : '0');
            stopped |= r >= 0 && walk(source, lid) <= r;
        }
        return answers.toString();
    }

    private boolean areLids(int row, int n) {
        for (int i = 0; i < n; i++) {
            if (!isThere(row >> 4 * i & 15)) {
                return false;
            }
        }
        return true;
    }

    int row(int row, int n, int r, int what) {
        if (n < 1 || n > 8) {
            return OUTSIDE;
        }
        if (!areLids(row, n)) {
            return UNKNOWN;
        }
        if (what < 0 || what > 1 || r < -1 || r > 999) {
            return OUTSIDE;
        }
        Map<String, Integer> kinds = new HashMap<>();
        int largest = 0;
        for (int source : sources()) {
            largest = Math.max(largest, kinds.merge(answersTo(source, row, n, r), 1, Integer::sum));
        }
        return what == 0 ? kinds.size() : largest;
    }

    int answers(int source, int row, int n, int r) {
        if (n < 1 || n > 8) {
            return OUTSIDE;
        }
        if (!sources().contains(source) || !areLids(row, n)) {
            return UNKNOWN;
        }
        if (r < -1 || r > 999) {
            return OUTSIDE;
        }
        return Integer.parseInt(answersTo(source, row, n, r), 2);
    }

    int hang(int d) {
        if (d < 0 || d > 999) {
            return OUTSIDE;
        }
        int there = above(0);
        for (int many = 0; many <= 12; many++) {
            for (int set = 0; set < 4096; set++) {
                if (Integer.bitCount(set) == many && (set & ~there) == 0 && isHung(set, d)) {
                    return set;
                }
            }
        }
        throw new IllegalStateException("all nodes together tell all sources apart");
    }

    private boolean isHung(int set, int d) {
        for (int a : sources()) {
            for (int b : sources()) {
                if (a < b && walk(a, b) > d && hungBelow(a, set) == hungBelow(b, set)) {
                    return false;
                }
            }
        }
        return true;
    }

    private int hungBelow(int source, int set) {
        int bits = 0;
        for (int node : wayDown(source)) {
            bits |= 1 << node & set;
        }
        return bits;
    }

    int day(int seed, int cup, int what) {
        if (cup < 0 || cup > 3) {
            return UNKNOWN;
        }
        if (seed < 0 || seed > 65535 || what < 0 || what > 3) {
            return OUTSIDE;
        }
        int set = allSources();
        if (set == 0) {
            return NOT;
        }
        List<Integer> bag = new ArrayList<>();
        for (int source : sources()) {
            for (int i = 0; i < told[source].likely; i++) {
                bag.add(source);
            }
        }
        long s = (seed * 25173L + 13849) % 65536;
        int source = bag.get((int) (s / 64 % bag.size()));
        int at = 0;
        int minutes = 0;
        int lifted = 0;
        Search search = new Search(false, true);
        while (Integer.bitCount(set) > 1) {
            int lid = search.best(at, set)[1];
            minutes += walk(at, lid) + lift;
            lifted++;
            at = lid;
            s = (s * 25173L + 13849) % 65536;
            boolean yes = isAbove(source, lid);
            boolean wrong = s / 64 % 10 < (yes ? cups[cup].b : cups[cup].a);
            set = left(set, lid, yes != wrong);
        }
        return new int[] {minutes, Integer.numberOfTrailingZeros(set), source, lifted}[what];
    }

    int count(int what) {
        if (what < 0 || what > 6) {
            return OUTSIDE;
        }
        int walked = 0;
        for (Pipe pipe : pipes.values()) {
            walked += pipe.walk;
        }
        return new int[] {nodes().size(), text.length(), sources().size(), found.size(), lift, none, walked}[what];
    }
}
