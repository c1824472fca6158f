import java.util.Random;

/** All promises: runs of calls drawn at random, each answer held against the model's. */
public final class AgainstModelTest {
    private static final int RUNS = 1500, CALLS = 512, CALLS_OF_ONE_TEXT = 80;
    private static final Check check = new Check();

    private final Random random;
    private final UpDrain x = new UpDrain();
    private final Model m = new Model();
    private final int run;
    private int calls = 0;

    private AgainstModelTest(int run) {
        this.run = run;
        random = new Random(run);
    }

    public static void main(String[] args) {
        for (int run = 0; run < RUNS; run++) {
            new AgainstModelTest(run).go();
        }
        check.end("AgainstModelTest");
    }

    private void go() {
        int towns = 1 + random.nextInt(12);
        for (int i = 0; i < towns && mayGoOn(); i++) {
            tell();
        }
        while (mayGoOn()) {
            call();
        }
    }

    /** Behind its 512th call an object may answer anything. */
    private boolean mayGoOn() {
        return calls + CALLS_OF_ONE_TEXT <= CALLS;
    }

    private void due(String call, long got, long want) {
        calls++;
        check.due("run " + run + ": " + call, got, want);
    }

    // ---- texts

    private void tell() {
        StringBuilder text = new StringBuilder();
        int lines = 1 + random.nextInt(random.nextInt(20) == 0 ? 11 : 7);
        for (int i = 0; i < lines; i++) {
            text.append(i == 0 ? "" : ";").append(line());
        }
        if (random.nextInt(4) == 0) {
            spoil(text);
        }
        write(text.toString());
        due("fault() of " + text, x.fault(), m.fault());
        due("town() of " + text, x.town(), m.town());
        due("erase() of " + text, x.erase(), m.erase());
    }

    private void spoil(StringBuilder text) {
        String signs = "  ;;az019A\0\t\u00e9";
        int at = random.nextInt(text.length());
        char sign = signs.charAt(random.nextInt(signs.length()));
        switch (random.nextInt(4)) {
            case 0: text.setCharAt(at, sign); break;
            case 1: text.insert(at, sign); break;
            case 2: text.deleteCharAt(at); break;
            default: text.setLength(at); break;
        }
    }

    private void write(String text) {
        int at = 0;
        while (at < text.length()) {
            int n = Math.min(1 + random.nextInt(8), text.length() - at);
            long bytes = random.nextLong();
            for (int i = 0; i < n; i++) {
                bytes = bytes & ~(255L << 8 * i) | (long) text.charAt(at + i) << 8 * i;
            }
            due("write(" + bytes + ", " + n + ")", x.write(bytes, n), m.write(bytes, n));
            at += n;
        }
    }

    private String line() {
        int v = random.nextInt(12);
        switch (random.nextInt(12)) {
            case 0: case 1: case 2: case 3: {
                int up = 1 + random.nextInt(11);
                return words("pipe", up, random.nextInt(up), number(0, 99), number(1, 60), number(0, 99));
            }
            case 4: case 5: case 6: return words("source", v, number(0, 9), number(0, 9999));
            case 7: return words("flow", v, number(0, 999));
            case 8: {
                int from = number(0, 23);
                return words("gulp", v, from, number(Math.min(from, 23), 23));
            }
            case 9: return words("rain", number(0, 23), number(0, 90));
            case 10: return words("cup", number(0, 3), number(1, 9999), number(0, 9), number(0, 9));
            default: return random.nextBoolean() ? words("lift", number(0, 60)) : words("none", number(0, 99));
        }
    }

    /** Mostly within the bounds, often near an end, now and then one beyond. */
    private int number(int least, int most) {
        int kind = random.nextInt(30);
        if (kind == 0) {
            return most + 1;
        }
        if (kind < 4) {
            return most;
        }
        if (kind < 12) {
            return least;
        }
        return least + random.nextInt(kind < 20 ? Math.min(8, most - least + 1) : most - least + 1);
    }

    private String words(String word, int... numbers) {
        StringBuilder line = new StringBuilder(blanks(0)).append(word).append(blanks(0));
        for (int number : numbers) {
            line.append(blanks(1)).append(random.nextInt(9) == 0 ? "0" : "").append(number);
        }
        return line.append(random.nextInt(9) == 0 ? " " : "").toString();
    }

    private String blanks(int least) {
        return " ".repeat(least + (random.nextInt(9) == 0 ? 1 : 0));
    }

    // ---- calls

    private static final int[] ODD = {
        Integer.MIN_VALUE, Integer.MIN_VALUE + 1, -65536, -4096, -32, -12, -5, -4, -3, -2, -1, 12, 13, 15, 16, 31, 32, 33, 64,
        999, 1000, 1439, 1440, 4095, 4096, 9999, 10000, 65535, 65536, 1 << 30, 1 << 31, Integer.MAX_VALUE - 1, Integer.MAX_VALUE};

    /** Now and then another number than the one that was drawn. */
    private int orOdd(int number) {
        return random.nextInt(60) == 0 ? ODD[random.nextInt(ODD.length)] : number;
    }

    private int node() {
        return orOdd(anyNode());
    }

    private int anyNode() {
        return random.nextInt(20) == 0 ? random.nextInt(16) - 2 : random.nextInt(12);
    }

    private int source() {
        for (int i = 0; i < 20; i++) {
            int node = random.nextInt(12);
            if (m.of(node, 5) > 0) {
                return node;
            }
        }
        return node();
    }

    private int cup() {
        return orOdd(random.nextInt(20) == 0 ? random.nextInt(7) - 1 : random.nextInt(4));
    }

    private int part() {
        return orOdd(random.nextInt(20) == 0 ? random.nextInt(5) - 1 : random.nextInt(2));
    }

    private int set() {
        if (random.nextInt(20) == 0) {
            return random.nextInt();
        }
        int set = random.nextInt(3) == 0 ? 1 << random.nextInt(12) : random.nextInt(4096);
        return orOdd(random.nextInt(20) == 0 ? set : set & m.above(0));
    }

    private int minute() {
        return orOdd(random.nextInt(10) == 0 ? random.nextInt(1500) - 20 : random.nextInt(400));
    }

    private int times() {
        return orOdd(random.nextInt(15) == 0 ? random.nextInt(9) - 1 : 1 + random.nextInt(6));
    }

    private int row(int n) {
        int row = random.nextInt(20) == 0 ? random.nextInt() : 0;
        for (int i = 0; i < Math.min(8, n); i++) {
            int lid = random.nextInt(12);
            row |= m.above(lid) > 0 ? lid << 4 * i : 0;
        }
        return row;
    }

    private int lids() {
        return orOdd(random.nextInt(15) == 0 ? random.nextInt(12) - 1 : 1 + random.nextInt(8));
    }

    private int walk() {
        int kind = random.nextInt(12);
        return orOdd(kind == 0 ? random.nextInt(5) - 3 : kind == 1 ? 997 + random.nextInt(5) : random.nextInt(60));
    }

    private void call() {
        int kind = random.nextInt(40);
        if (kind < 4) {
            tell();
        } else if (kind < 12) {
            callOfTown();
        } else if (kind < 16) {
            callOfWater();
        } else if (kind < 27) {
            callOfThought();
        } else {
            callOfSearch();
        }
    }

    private void callOfTown() {
        int a = node();
        int b = node();
        int what = orOdd(random.nextInt(11) - 1);
        int cup = cup();
        due("of(" + a + ", " + what + ")", x.of(a, what), m.of(a, what));
        due("cup(" + cup + ", " + what + ")", x.cup(cup, what), m.cup(cup, what));
        due("above(" + a + ")", x.above(a), m.above(a));
        due("walk(" + a + ", " + b + ")", x.walk(a, b), m.walk(a, b));
        due("count(" + what + ")", x.count(what), m.count(what));
        if (random.nextInt(10) == 0) {
            int n = orOdd(random.nextInt(11) - 1);
            due("write(0, " + n + ")", x.write(0, n), m.write(0, n));
        }
    }

    private void callOfWater() {
        int source = random.nextBoolean() ? source() : node();
        int node = node();
        int hour = orOdd(random.nextInt(28) - 2);
        int minute = minute();
        int what = part();
        int cup = cup();
        int set = set();
        int n = times();
        due("flow(" + node + ", " + hour + ")", x.flow(node, hour), m.flow(node, hour));
        due("comes(" + source + ", " + node + ", " + minute + ", " + what + ")",
            x.comes(source, node, minute, what), m.comes(source, node, minute, what));
        due("should(" + source + ", " + cup + ", " + set + ", " + minute + ", " + n + ")",
            x.should(source, cup, set, minute, n), m.should(source, cup, set, minute, n));
    }

    private void callOfThought() {
        int cup = cup();
        int set = set();
        int minute = minute();
        int n = times();
        int part = part();
        int a = orOdd(random.nextInt(5) == 0 ? random.nextInt(4) - 2 : source());
        int b = orOdd(source());
        boolean yes = random.nextBoolean();
        switch (random.nextInt(14)) {
            case 0: case 1: case 2: case 3: {
                due("found(" + cup + ", " + set + ", " + minute + ", " + n + ", " + yes + ")",
                    x.found(cup, set, minute, n, yes), m.found(cup, set, minute, n, yes));
                break;
            }
            case 4: due("forget()", x.forget(), m.forget()); break;
            case 5: case 6: due("chance(" + a + ", " + part + ")", x.chance(a, part), m.chance(a, part)); break;
            case 7: case 8: due("two(" + a + ", " + b + ", " + part + ")", x.two(a, b, part), m.two(a, b, part)); break;
            case 9: case 10: {
                due("worth(" + cup + ", " + set + ", " + minute + ", " + n + ", " + part + ")",
                    x.worth(cup, set, minute, n, part), m.worth(cup, set, minute, n, part));
                break;
            }
            case 11: due("likeliest()", x.likeliest(), m.likeliest()); break;
            default: {
                int strength = orOdd(random.nextInt(8) == 0 ? random.nextInt(10003) - 1 : random.nextInt(300));
                due("lacks(" + strength + ")", x.lacks(strength), m.lacks(strength));
            }
        }
    }

    private void callOfSearch() {
        int part = part();
        int node = node();
        int source = random.nextInt(5) == 0 ? node : source();
        int n = lids();
        int row = row(n);
        int r = walk();
        int seed = orOdd(random.nextInt(65536));
        switch (random.nextInt(8)) {
            case 0: due("fewest(" + part + ")", x.fewest(part), m.fewest(part)); break;
            case 1: due("mean(" + part + ")", x.mean(part), m.mean(part)); break;
            case 2: due("soon(" + node + ", " + part + ")", x.soon(node, part), m.soon(node, part)); break;
            case 3: case 4: {
                due("row(" + row + ", " + n + ", " + r + ", " + part + ")", x.row(row, n, r, part), m.row(row, n, r, part));
                break;
            }
            case 5: {
                due("answers(" + source + ", " + row + ", " + n + ", " + r + ")",
                    x.answers(source, row, n, r), m.answers(source, row, n, r));
                break;
            }
            case 6: due("hang(" + r + ")", x.hang(r), m.hang(r)); break;
            default: {
                int cup = cup();
                int what = orOdd(random.nextInt(10) == 0 ? random.nextInt(7) - 1 : random.nextInt(4));
                due("day(" + seed + ", " + cup + ", " + what + ")", x.day(seed, cup, what), m.day(seed, cup, what));
            }
        }
    }
}
