import java.lang.reflect.InvocationTargetException;
import java.lang.reflect.Method;
import java.util.ArrayList;
import java.util.Arrays;
import java.util.List;
import java.util.function.Supplier;

/**
 * Refused calls of all promises: each number that a call takes just inside and just outside of its bounds, the least and
 * the greatest int; which refusal fits first where several would; and behind each that nothing has changed.
 */
public final class RefusalTest {
    private static final int UNKNOWN = UpDrain.UNKNOWN, OUTSIDE = UpDrain.OUTSIDE, NOT = UpDrain.NOT, FULL = UpDrain.FULL;
    private static final int MIN = Integer.MIN_VALUE, MAX = Integer.MAX_VALUE;
    private static final int TAKEN = 0;
    private static final Check check = new Check();

    private final String name;
    private final long[] args;
    private final List<long[]> inside = new ArrayList<>();
    private final List<Integer> places = new ArrayList<>();
    private final List<Integer> refusals = new ArrayList<>();
    private final List<long[]> beyond = new ArrayList<>();

    private RefusalTest(String name, long... args) {
        this.name = name;
        this.args = args;
    }

    public static void main(String[] args) {
        theFirstThatFits();
        ofTheText();
        ofTheTown();
        ofWhatComes();
        ofWhatIsThought();
        ofSearches();
        ofRows();
        check.end("RefusalTest");
    }

    // ---- towns: in all but the first NODES 0, 1, 2, 4, 7 and 11 are there, SOURCES are 0, 2, 7 and 11

    private static UpDrain empty() {
        return new UpDrain();
    }

    private static UpDrain withoutSources() {
        UpDrain x = Check.townOf("pipe 1 0 10 3 20;pipe 2 1 5 4 0;pipe 4 1 7 9 50;pipe 7 4 2 2 10;pipe 11 7 0 6 0",
            "flow 0 4;flow 2 7;flow 7 9;flow 5 3;rain 3 15;lift 5;source 3 5 5;source 4 0 88",
            "cup 0 9 0 0;cup 1 40 1 2;cup 2 300 0 3");
        Check.write(x, "lift 9;pipe 3 2 1 1 1;flow 11 5");
        return x;
    }

    private static UpDrain rich() {
        UpDrain x = withoutSources();
        x.erase();
        Check.tell(x, "source 0 1 50;source 2 3 900;source 7 2 700;source 11 4 9999;gulp 7 1 5;none 2");
        x.found(1, 1, 100, 2, true);
        x.found(2, 2, 130, 1, false);
        x.found(1, 16 + 4, 300, 6, true);
        Check.write(x, "lift 9;pipe 3 2 1 1 1;flow 11 5");
        return x;
    }

    private static UpDrain withFault() {
        UpDrain x = rich();
        x.erase();
        Check.write(x, "lift 9;pipe 3 3 1 1 1;flow 11 5");
        return x;
    }

    private static UpDrain withTenFound() {
        UpDrain x = rich();
        for (int i = 3; i < 10; i++) {
            x.found(1, 1, 100 + i, 1, true);
        }
        return x;
    }

    private static UpDrain withoutThought() {
        UpDrain x = rich();
        x.found(0, 1, 200, 1, true);
        x.found(0, 1, 200, 1, false);
        return x;
    }

    private static UpDrain withFullText() {
        UpDrain x = rich();
        Check.write(x, ";lift  8;flow  11  6".repeat(8) + ";none  12");
        return x;
    }

    private static UpDrain withAlmostFullText() {
        UpDrain x = withFullText();
        x.erase();
        Check.write(x, "flow 2 1;".repeat(8) + "  ".repeat(60) + "lift  7");
        return x;
    }

    // ---- the calls

    private static void theFirstThatFits() {
        check.says(0, "Refused, and nothing changes: UNKNOWN (no such NODE, or it is not there, no such CUP, SOURCE), "
            + "OUTSIDE (another number is not as told), NOT (not now: as told), FULL: the first of these that fits.");
        UpDrain x = withTenFound();
        check.due("no such CUP, no such set, full", x.found(4, 0, 0, 1, true), UNKNOWN);
        check.due("no such set, full", x.found(3, 0, 0, 1, true), OUTSIDE);
        check.due("full", x.found(3, 1, 0, 1, true), FULL);
        check.alike("found(..)", x, withTenFound());
        UpDrain y = withoutThought();
        check.due("no such NODE, no such part, all is 0", y.chance(12, 2), UNKNOWN);
        check.due("a NODE that is not there, all is 0", y.chance(3, 0), UNKNOWN);
        check.due("no SOURCE, all is 0", y.chance(4, 0), UNKNOWN);
        check.due("no such part, all is 0", y.chance(2, 2), OUTSIDE);
        check.due("all is 0", y.chance(2, 1), NOT);
        check.due("no such CUP, no such minute, all is 0", y.worth(4, 1, 1440, 1, 0), UNKNOWN);
        check.due("no such minute, all is 0", y.worth(3, 1, 1440, 1, 0), OUTSIDE);
        check.due("all is 0", y.worth(3, 1, 1439, 1, 0), NOT);
        check.alike("chance(..), worth(..)", y, withoutThought());
        UpDrain z = withoutSources();
        check.due("no such CUP, no such SEED, no SOURCES", z.day(65536, 4, 0), UNKNOWN);
        check.due("no such SEED, no SOURCES", z.day(65536, 3, 0), OUTSIDE);
        check.due("no SOURCES", z.day(65535, 3, 0), NOT);
        check.alike("day(..)", z, withoutSources());
    }

    private static void ofTheText() {
        check.says(2, "n (1 .. 8) bytes more of THE TEXT, byte i being bytes >> 8 i & 255: how many it has. OUTSIDE; FULL.");
        call("write", ';', 1).good(0, Long.MIN_VALUE, -1, 0, Long.MAX_VALUE).good(1, 1, 8)
            .bad(1, OUTSIDE, 0, 9, -1, -8, 16, MIN, MAX)
            .go(RefusalTest::empty, TAKEN).go(RefusalTest::rich, TAKEN).go(RefusalTest::withFault, TAKEN)
            .go(RefusalTest::withFullText, FULL);
        call("write", ';', 2).bad(1, OUTSIDE, 0, 9, -1, MIN, MAX).go(RefusalTest::withAlmostFullText, FULL);
        check.says(5, "NOT: it has a FAULT.");
        call("town").go(RefusalTest::empty, NOT).go(RefusalTest::withFault, NOT).go(RefusalTest::rich, TAKEN)
            .go(RefusalTest::withFullText, NOT);
    }

    private static void ofTheTown() {
        check.says(6, "UNKNOWN; OUTSIDE.");
        call("of", 11, 8).good(0, 0, 1, 2, 4, 7, 11).good(1, 0, 8)
            .bad(0, UNKNOWN, -1, 12, 3, 10, 32, 33, MIN, MAX).bad(1, OUTSIDE, -1, 9, MIN, MAX).go(RefusalTest::rich, TAKEN);
        check.says(7, "UNKNOWN; OUTSIDE.");
        call("cup", 3, 2).good(0, 0, 3).good(1, 0, 2)
            .bad(0, UNKNOWN, -1, 4, MIN, MAX).bad(1, OUTSIDE, -1, 3, MIN, MAX).go(RefusalTest::rich, TAKEN);
        check.says(8, "UNKNOWN.");
        call("above", 11).good(0, 0, 11).bad(0, UNKNOWN, -1, 12, 3, 10, 32, 43, MIN, MAX).go(RefusalTest::rich, TAKEN);
        check.says(9, "UNKNOWN.");
        call("walk", 11, 2).good(0, 0, 11).good(1, 0, 11)
            .bad(0, UNKNOWN, -1, 12, 3, 10, 32, MIN, MAX).bad(1, UNKNOWN, -1, 12, 3, 10, 32, MIN, MAX).go(RefusalTest::rich, TAKEN);
        check.says(27, "OUTSIDE.");
        call("count", 6).good(0, 0, 6).bad(0, OUTSIDE, -1, 7, MIN, MAX).go(RefusalTest::rich, TAKEN);
    }

    private static void ofWhatComes() {
        check.says(10, "UNKNOWN; OUTSIDE: HOUR.");
        call("flow", 11, 23).good(0, 0, 11).good(1, 0, 23)
            .bad(0, UNKNOWN, -1, 12, 3, 32, MIN, MAX).bad(1, OUTSIDE, -1, 24, MIN, MAX).go(RefusalTest::rich, TAKEN);
        check.says(11, "UNKNOWN; OUTSIDE.");
        call("comes", 11, 7, 1439, 1).good(0, 0, 1, 11).good(1, 0, 11).good(2, 0, 1439).good(3, 0, 1)
            .bad(0, UNKNOWN, -1, 12, 3, 32, MIN, MAX).bad(1, UNKNOWN, -1, 12, 3, 32, MIN, MAX)
            .bad(2, OUTSIDE, -1, 1440, MIN, MAX).bad(3, OUTSIDE, -1, 2, MIN, MAX).go(RefusalTest::rich, TAKEN);
        check.says(12, "UNKNOWN: source, CUP; OUTSIDE: set (NODES that are there, one at least), minute, n (also beyond the day).");
        call("should", 11, 3, 1, 100, 1).good(0, 0, 1, 11).good(1, 0, 3).good(2, 1, 2048, 2048 + 128 + 16 + 4 + 2 + 1)
            .good(3, 0, 1439).good(4, 1, 6)
            .bad(0, UNKNOWN, -1, 12, 3, 32, MIN, MAX).bad(1, UNKNOWN, -1, 4, MIN, MAX)
            .bad(2, OUTSIDE, 0, 8, 9, 4096, 4097, -1, MIN, MIN + 1, MAX).bad(3, OUTSIDE, -1, -60, 1440, MIN, MAX)
            .bad(4, OUTSIDE, 0, 7, -1, MIN, MAX, 1 << 26).go(RefusalTest::rich, TAKEN);
        call("should", 11, 3, 1, 1139, 6).good(4, 1, 6).bad(3, OUTSIDE, 1140, 1439).go(RefusalTest::rich, TAKEN);
        call("should", 11, 3, 1, 1379, 2).good(4, 1, 2).bad(3, OUTSIDE, 1380, 1439).bad(4, OUTSIDE, 3, 6).go(RefusalTest::rich, TAKEN);
        call("should", 11, 3, 1, 1439, 1).bad(4, OUTSIDE, 2, 6).go(RefusalTest::rich, TAKEN);
    }

    private static void ofWhatIsThought() {
        check.says(13, "UNKNOWN; OUTSIDE; FULL.");
        call("found", 3, 1, 100, 1, 1).good(0, 0, 3).good(1, 1, 2048, 2048 + 128 + 16 + 4 + 2 + 1)
            .good(2, 0, 1439).good(3, 1, 6).good(4, 0, 1)
            .bad(0, UNKNOWN, -1, 4, MIN, MAX).bad(1, OUTSIDE, 0, 8, 9, 4096, 4097, -1, MIN, MAX)
            .bad(2, OUTSIDE, -1, -60, 1440, MIN, MAX).bad(3, OUTSIDE, 0, 7, -1, MIN, MAX)
            .go(RefusalTest::rich, TAKEN).go(RefusalTest::withTenFound, FULL);
        call("found", 0, 1, 0, 1, 1).bad(1, OUTSIDE, 0, 2, 3, 2048).go(RefusalTest::empty, TAKEN);
        call("found", 3, 1, 1139, 6, 0).bad(2, OUTSIDE, 1140, 1439).go(RefusalTest::rich, TAKEN).go(RefusalTest::withTenFound, FULL);
        call("found", 3, 1, 1379, 2, 0).bad(2, OUTSIDE, 1380, 1439).bad(3, OUTSIDE, 3, 6).go(RefusalTest::rich, TAKEN);
        check.says(15, "UNKNOWN; OUTSIDE; NOT: all THOUGHT is 0.");
        call("chance", 11, 1).good(0, -1, 0, 2, 7, 11).good(1, 0, 1)
            .bad(0, UNKNOWN, -2, 12, 1, 3, 4, 32, MIN, MAX).bad(1, OUTSIDE, -1, 2, MIN, MAX)
            .go(RefusalTest::rich, TAKEN).go(RefusalTest::withoutThought, NOT);
        call("chance", -1, 0).bad(1, OUTSIDE, -1, 2).go(RefusalTest::withoutThought, NOT).go(RefusalTest::empty, NOT);
        check.says(16, "UNKNOWN: also one twice; OUTSIDE; NOT: all THOUGHT of pairs is 0.");
        call("two", 11, 2, 1).good(0, 0, 7, 11).good(1, 0, 2, 7).good(2, 0, 1)
            .bad(0, UNKNOWN, -1, 12, 1, 3, 4, 2, 32, MIN, MAX).bad(1, UNKNOWN, -1, 12, 1, 3, 4, 11, 32, MIN, MAX)
            .bad(2, OUTSIDE, -1, 2, MIN, MAX).go(RefusalTest::rich, TAKEN).go(RefusalTest::withoutThought, NOT);
        check.says(17, "UNKNOWN: CUP; OUTSIDE; NOT: all THOUGHT is 0.");
        call("worth", 3, 1, 100, 1, 1).good(0, 0, 3).good(1, 1, 2048).good(2, 0, 1439).good(3, 1, 6).good(4, 0, 1)
            .bad(0, UNKNOWN, -1, 4, MIN, MAX).bad(1, OUTSIDE, 0, 8, 9, 4096, 4097, -1, MIN, MAX)
            .bad(2, OUTSIDE, -1, -60, 1440, MIN, MAX).bad(3, OUTSIDE, 0, 7, -1, MIN, MAX).bad(4, OUTSIDE, -1, 2, MIN, MAX)
            .go(RefusalTest::rich, TAKEN).go(RefusalTest::withoutThought, NOT);
        call("worth", 3, 1, 1139, 6, 0).bad(2, OUTSIDE, 1140, 1439).go(RefusalTest::rich, TAKEN).go(RefusalTest::withoutThought, NOT);
        call("worth", 3, 1, 100, 1, 1).bad(4, OUTSIDE, -1, 2).go(RefusalTest::empty, NOT);
        check.says(19, "OUTSIDE: STRENGTH.");
        call("lacks", 500).good(0, 0, 9999).bad(0, OUTSIDE, -1, 10000, MIN, MAX)
            .go(RefusalTest::rich, TAKEN).go(RefusalTest::withoutThought, TAKEN).go(RefusalTest::empty, TAKEN);
    }

    private static void ofSearches() {
        check.says(20, "OUTSIDE.");
        call("fewest", 1).good(0, 0, 1).bad(0, OUTSIDE, -1, 2, MIN, MAX).go(RefusalTest::rich, TAKEN).go(RefusalTest::empty, TAKEN);
        check.says(21, "OUTSIDE; NOT: there are no SOURCES.");
        call("mean", 1).good(0, 0, 1).bad(0, OUTSIDE, -1, 2, MIN, MAX)
            .go(RefusalTest::rich, TAKEN).go(RefusalTest::withoutSources, NOT).go(RefusalTest::empty, NOT);
        check.says(22, "UNKNOWN; OUTSIDE.");
        call("soon", 11, 1).good(0, 0, 1, 2, 4, 7, 11).good(1, 0, 1)
            .bad(0, UNKNOWN, -1, 12, 3, 32, MIN, MAX).bad(1, OUTSIDE, -1, 2, MIN, MAX)
            .go(RefusalTest::rich, TAKEN).go(RefusalTest::withoutSources, TAKEN);
        check.says(25, "HANG for d (0 .. 999), by bits. OUTSIDE.");
        call("hang", 5).good(0, 0, 999).bad(0, OUTSIDE, -1, 1000, MIN, MAX).go(RefusalTest::rich, TAKEN).go(RefusalTest::withoutSources, TAKEN);
        check.says(26, "UNKNOWN: CUP; OUTSIDE: SEED, what; NOT: there are no SOURCES.");
        call("day", 5, 1, 3).good(0, 0, 65535).good(1, 0, 3).good(2, 0, 3)
            .bad(1, UNKNOWN, -1, 4, MIN, MAX).bad(0, OUTSIDE, -1, 65536, MIN, MAX).bad(2, OUTSIDE, -1, 4, MIN, MAX)
            .go(RefusalTest::rich, TAKEN).go(RefusalTest::withoutSources, NOT);
    }

    private static void ofRows() {
        int eight = 0xb0124724;
        check.says(23, "OUTSIDE: n (1 .. 8); UNKNOWN: a LID; OUTSIDE: what, r: the first of these.");
        call("row", eight, 8, 999, 1).good(0, 0, 0x7bbbbbbb, eight).good(1, 1, 8).good(2, -1, 0, 999).good(3, 0, 1)
            .bad(1, OUTSIDE, 0, 9, -1, MIN, MAX).bad(0, UNKNOWN, 3, 12, 15, 0x30, 0x30000000, 0xc0000000, 0xf0000000, -1, MIN, MAX)
            .bad(3, OUTSIDE, -1, 2, MIN, MAX).bad(2, OUTSIDE, -2, 1000, MIN, MAX)
            .go(RefusalTest::rich, TAKEN).go(RefusalTest::withoutSources, TAKEN);
        check.says(24, "OUTSIDE: n; UNKNOWN: SOURCE, a LID; OUTSIDE: r.");
        call("answers", 11, eight, 8, 999).good(0, 0, 2, 7, 11).good(1, 0, 0x7bbbbbbb, eight).good(2, 1, 8).good(3, -1, 0, 999)
            .bad(2, OUTSIDE, 0, 9, -1, MIN, MAX).bad(0, UNKNOWN, -1, 12, 1, 3, 4, 32, MIN, MAX)
            .bad(1, UNKNOWN, 3, 12, 15, 0x30, 0x30000000, 0xc0000000, 0xf0000000, -1, MIN, MAX).bad(3, OUTSIDE, -2, 1000, MIN, MAX)
            .go(RefusalTest::rich, TAKEN);
        call("answers", 11, 0, 1, -1).bad(2, OUTSIDE, 0, 9).go(RefusalTest::withoutSources, UNKNOWN);
    }

    // ---- how they are tried

    private static RefusalTest call(String name, long... args) {
        return new RefusalTest(name, args);
    }

    /** These are within the bounds of the number at that place. */
    private RefusalTest good(int place, long... numbers) {
        for (long number : numbers) {
            long[] some = args.clone();
            some[place] = number;
            inside.add(some);
        }
        return this;
    }

    /** These are refused so; what is told first goes ahead of what is told later. */
    private RefusalTest bad(int place, int refusal, long... numbers) {
        places.add(place);
        refusals.add(refusal);
        beyond.add(numbers);
        return this;
    }

    /** What is due where all numbers are within their bounds; and each number beyond them, by itself and with others. */
    private RefusalTest go(Supplier<UpDrain> town, int due) {
        expect(town, args, due);
        for (long[] some : inside) {
            expect(town, some, due);
        }
        for (int group = 0; group < beyond.size(); group++) {
            for (long number : beyond.get(group)) {
                long[] some = args.clone();
                some[places.get(group)] = number;
                expect(town, some, refusals.get(group));
                withLaterOnes(town, group, some);
            }
        }
        return this;
    }

    private void withLaterOnes(Supplier<UpDrain> town, int group, long[] some) {
        int later = beyond.size() - group - 1;
        for (int which = 1; which < 1 << later; which++) {
            long[] more = some.clone();
            for (int i = 0; i < later; i++) {
                if ((which >> i & 1) != 0) {
                    more[places.get(group + 1 + i)] = beyond.get(group + 1 + i)[0];
                }
            }
            expect(town, more, refusals.get(group));
        }
    }

    private void expect(Supplier<UpDrain> town, long[] given, int due) {
        UpDrain x = town.get();
        String call = name + Arrays.toString(given);
        long answer = answer(x, given);
        if (due == TAKEN) {
            check.due(call + " is not refused", answer >= UpDrain.NONE ? 1 : 0, 1);
        } else {
            check.due(call, answer, due);
            check.alike(call, x, town.get());
        }
    }

    private long answer(UpDrain x, long[] given) {
        for (Method method : UpDrain.class.getMethods()) {
            if (method.getName().equals(name)) {
                Class<?>[] types = method.getParameterTypes();
                Object[] all = new Object[given.length];
                for (int i = 0; i < all.length; i++) {
                    all[i] = types[i] == long.class ? (Object) given[i]
                        : types[i] == boolean.class ? (Object) (given[i] != 0) : (Object) (int) given[i];
                }
                return answerOf(method, x, all);
            }
        }
        throw new IllegalStateException("no method " + name);
    }

    private static long answerOf(Method method, UpDrain x, Object[] all) {
        try {
            return ((Number) method.invoke(x, all)).longValue();
        } catch (IllegalAccessException | InvocationTargetException e) {
            throw new IllegalStateException(method.getName(), e);
        }
    }
}
