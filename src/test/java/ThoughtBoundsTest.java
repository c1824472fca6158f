import java.math.BigInteger;

/** The bounds of what is thought, sentence by sentence: promises 13 to 19 and their terms. */
public final class ThoughtBoundsTest {
    private static final int NONE = UpDrain.NONE, UNKNOWN = UpDrain.UNKNOWN, OUTSIDE = UpDrain.OUTSIDE;
    private static final int NOT = UpDrain.NOT, FULL = UpDrain.FULL;
    private static final int MIN = Integer.MIN_VALUE, MAX = Integer.MAX_VALUE;
    private static final Check check = new Check();

    public static void main(String[] args) {
        tenCupsAtMost();
        theTenthCounts();
        withWhatTheySaid();
        tenthsOfACup();
        thoughtOfNone();
        chanceByAllTogether();
        chanceOfAll();
        twoUnlikeSources();
        twoAreAdded();
        twoOfAll();
        worthAtItsEnds();
        worthByWhatIsThought();
        lackingAtItsEnds();
        lackingAllDay();
        lowestTerms();
        findingAndForgetting();
        chanceRefused();
        twoRefused();
        worthRefused();
        theLikeliest();
        noLikeliest();
        theGreatestThoughts();
        check.end("ThoughtBoundsTest");
    }

    /** Leaves at the outfall, from 1 on, each a source of that LIKELY; a cup at a leaf tells of its source alone. */
    private static UpDrain leaves(int... likely) {
        UpDrain x = new UpDrain();
        for (int i = 0; i < likely.length; i++) {
            Check.tell(x, "pipe " + (i + 1) + " 0 0 1 0;source " + (i + 1) + " " + likely[i] + " 100");
        }
        return x;
    }

    private static void chance(UpDrain x, int source, long above, long below) {
        check.due("chance(" + source + ", 0)", x.chance(source, 0), above);
        check.due("chance(" + source + ", 1)", x.chance(source, 1), below);
    }

    private static void two(UpDrain x, int a, int b, long above, long below) {
        check.due("two(" + a + ", " + b + ", 0)", x.two(a, b, 0), above);
        check.due("two(" + a + ", " + b + ", 1)", x.two(a, b, 1), below);
        check.due("two(" + b + ", " + a + ", 0)", x.two(b, a, 0), above);
        check.due("two(" + b + ", " + a + ", 1)", x.two(b, a, 1), below);
    }

    private static void worth(UpDrain x, int cup, int set, long above, long below) {
        check.due("worth(" + cup + ", " + set + ", 0, 1, 0)", x.worth(cup, set, 0, 1, 0), above);
        check.due("worth(" + cup + ", " + set + ", 0, 1, 1)", x.worth(cup, set, 0, 1, 1), below);
    }

    // ---- what was found

    private static void tenCupsAtMost() {
        check.says(0, "FOUND are 10 CUPS at most, with what they said.");
        UpDrain x = leaves(1, 1);
        for (int i = 1; i <= 10; i++) {
            check.due("found " + i, x.found(i % 4, 1, 0, 1, true), i);
        }
        for (int i = 0; i < 3; i++) {
            check.due("one more", x.found(0, 1, 0, 1, true), FULL);
            check.due("count(3)", x.count(3), 10);
        }
        check.due("unknown goes ahead of full", x.found(4, 1, 0, 1, true), UNKNOWN);
        check.due("outside goes ahead of full", x.found(0, 0, 0, 1, true), OUTSIDE);
        check.due("outside goes ahead of full", x.found(0, 1, 0, 7, true), OUTSIDE);
        // A text has no part in it.
        Check.tell(x, "lift 5");
        check.due("still full", x.found(0, 1, 0, 1, true), FULL);
    }

    /** Each one counts, also if it is found twice, and the one that was refused does not. */
    private static void theTenthCounts() {
        check.says(0, "FOUND are 10 CUPS at most, with what they said.");
        UpDrain x = leaves(1, 1);
        Check.tell(x, "cup 0 1 1 1");
        long power = 1;
        for (int i = 1; i <= 10; i++) {
            x.found(0, 2, 0, 1, true);
            power *= 9;
            chance(x, 1, power, power + 1);
            chance(x, 2, 1, power + 1);
        }
        x.found(0, 2, 0, 1, true);
        chance(x, 1, power, power + 1);
        x.forget();
        chance(x, 1, 1, 2);
    }

    private static void withWhatTheySaid() {
        check.says(0, "FOUND are 10 CUPS at most, with what they said.");
        UpDrain x = leaves(1, 1);
        Check.tell(x, "cup 0 1 1 2");
        x.found(0, 2, 0, 1, true);
        chance(x, 1, 8, 9);
        x.forget();
        x.found(0, 2, 0, 1, false);
        chance(x, 1, 2, 11);
        x.found(0, 2, 0, 1, true);
        // 2 * 8 by 2 * 8 + 9 * 1.
        chance(x, 1, 16, 25);
    }

    private static void tenthsOfACup() {
        check.says(0, "LIKELY times, for each FOUND, the tenths by which the CUP says that, if it SHOULD say yes or not by this source (none: not).");
        int[][] wrong = {{0, 0}, {9, 0}, {0, 9}, {9, 9}, {1, 8}, {5, 5}};
        for (int[] one : wrong) {
            for (int yes = 0; yes < 2; yes++) {
                UpDrain x = leaves(3, 2);
                Check.tell(x, "none 1;cup 2 1 " + one[0] + " " + one[1]);
                x.found(2, 2, 0, 1, yes == 1);
                long first = 3 * (yes == 1 ? 10 - one[1] : one[1]);
                long second = 2 * (yes == 1 ? one[0] : 10 - one[0]);
                long none = yes == 1 ? one[0] : 10 - one[0];
                part(x, 1, first, first + second + none);
                part(x, 2, second, first + second + none);
                part(x, NONE, none, first + second + none);
            }
        }
    }

    /** The chance in lowest terms, worked out here by another way. */
    private static void part(UpDrain x, int source, long above, long below) {
        long by = BigInteger.valueOf(above).gcd(BigInteger.valueOf(below)).longValue();
        chance(x, source, above / by, below / by);
    }

    private static void thoughtOfNone() {
        check.says(0, "THOUGHT of a SOURCE, or that there is none");
        UpDrain x = leaves(1);
        chance(x, NONE, 0, 1);
        chance(x, 1, 1, 1);
        Check.tell(x, "none 99");
        chance(x, NONE, 99, 100);
        chance(x, 1, 1, 100);
        x.found(0, 2, 0, 1, true);
        chance(x, NONE, 0, 1);
        chance(x, 1, 1, 1);
        x.forget();
        x.found(0, 2, 0, 1, false);
        chance(x, NONE, 1, 1);
        chance(x, 1, 0, 1);
        UpDrain y = Check.townOf("none 1");
        chance(y, NONE, 1, 1);
        y.found(0, 1, 0, 1, false);
        chance(y, NONE, 1, 1);
        y.found(0, 1, 0, 1, true);
        check.due("NOT", y.chance(NONE, 0), NOT);
    }

    // ---- chance, two, worth

    private static void chanceByAllTogether() {
        check.says(0, "CHANCE: that by all together.");
        chance(leaves(1), 1, 1, 1);
        chance(leaves(99), 1, 1, 1);
        UpDrain x = leaves(99, 1);
        chance(x, 1, 99, 100);
        chance(x, 2, 1, 100);
        // A NODE that is no SOURCE, or is not there, has no part in it.
        Check.tell(x, "source 0 0 100;source 9 50 100");
        chance(x, 1, 99, 100);
        Check.tell(x, "source 0 1 0");
        chance(x, 0, 1, 101);
        // Nor has one that was a SOURCE.
        Check.tell(x, "source 1 0 100");
        chance(x, 2, 1, 2);
        worth(x, 0, 2, 0, 1);
        check.due("likeliest()", x.likeliest(), 0);
        Check.tell(x, "source 0 1 100");
        worth(x, 0, 1, 1, 1);
        worth(x, 0, 4, 1, 2);
    }

    private static void chanceOfAll() {
        check.says(0, "CHANCE: that by all together.");
        UpDrain x = leaves(99, 99, 99, 99, 99, 99, 99, 99, 99, 99, 99);
        Check.tell(x, "source 0 99 100;none 99");
        for (int source = -1; source < 12; source++) {
            chance(x, source, 1, 13);
        }
        // Ten cups that all of them but none should make say yes.
        for (int i = 0; i < 10; i++) {
            x.found(0, 1, 0, 1, true);
        }
        for (int source = 0; source < 12; source++) {
            chance(x, source, 1, 12);
        }
        chance(x, NONE, 0, 1);
    }

    private static void twoUnlikeSources() {
        check.says(0, "TWO: of two unlike SOURCES LIKELY times LIKELY instead; by all pairs together.");
        two(leaves(1, 1), 1, 2, 1, 1);
        two(leaves(99, 1), 1, 2, 1, 1);
        UpDrain x = leaves(99, 98, 1);
        two(x, 1, 2, 9702, 9899);
        two(x, 1, 3, 99, 9899);
        two(x, 2, 3, 98, 9899);
        // None has no part in it, nor has one that is no SOURCE or is not there.
        Check.tell(x, "none 99;source 0 0 100;source 9 99 100;source 10 99 100");
        two(x, 1, 2, 9702, 9899);
        // One that is no SOURCE any more.
        Check.tell(x, "source 3 0 100");
        two(x, 1, 2, 1, 1);
        UpDrain y = leaves(5);
        check.due("of one SOURCE there is no pair", y.two(1, 1, 0), UNKNOWN);
        check.due("nor with another", y.two(1, 0, 0), UNKNOWN);
    }

    private static void twoAreAdded() {
        check.says(0, "Of two sources what COMES is added.");
        // 2 by 3 each are 666, both together 1333; a third lets in nothing.
        UpDrain x = leaves(1, 1, 1);
        Check.tell(x, "flow 0 3;source 1 1 2;source 2 1 2;source 3 1 0;cup 0 1333 0 0;cup 1 1334 0 0;cup 2 666 0 0;cup 3 667 0 0");
        x.found(0, 1, 0, 1, true);
        two(x, 1, 2, 1, 1);
        two(x, 1, 3, 0, 1);
        check.due("no one alone", x.chance(1, 0), NOT);
        x.forget();
        x.found(1, 1, 0, 1, true);
        check.due("not more than both", x.two(1, 2, 0), NOT);
        x.forget();
        x.found(2, 1, 0, 1, true);
        two(x, 1, 3, 1, 3);
        x.found(3, 1, 0, 1, false);
        two(x, 1, 3, 1, 2);
        two(x, 1, 2, 0, 1);
        // At a minute to which one of them does not come, the other alone counts.
        UpDrain y = leaves(1, 1);
        Check.tell(y, "gulp 1 0 0;gulp 2 1 1;cup 0 9999 0 0;flow 0 20");
        y.found(0, 1, 0, 2, true);
        check.due("not in one minute", y.two(1, 2, 0), NOT);
        Check.tell(y, "gulp 2 0 0");
        two(y, 1, 2, 1, 1);
    }

    private static void twoOfAll() {
        check.says(0, "by all pairs together.");
        UpDrain x = leaves(99, 99, 99, 99, 99, 99, 99, 99, 99, 99, 99);
        Check.tell(x, "source 0 99 100");
        for (int i = 0; i < 10; i++) {
            x.found(0, 1, 0, 1, true);
        }
        for (int a = 0; a < 12; a++) {
            for (int b = 0; b < a; b++) {
                check.due("two(" + a + ", " + b + ", 0)", x.two(a, b, 0), 1);
                check.due("two(" + b + ", " + a + ", 1)", x.two(b, a, 1), 66);
            }
        }
    }

    private static void worthAtItsEnds() {
        check.says(0, "WORTH of a CUP: the chance that it would say yes, by what is THOUGHT.");
        UpDrain x = leaves(1, 1);
        worth(x, 0, 1, 1, 1);
        worth(x, 0, 2, 1, 2);
        Check.tell(x, "cup 1 9999 0 0;flow 0 999;cup 2 1 9 0;cup 3 1 0 9");
        worth(x, 1, 1, 0, 1);
        worth(x, 2, 1, 1, 1);
        worth(x, 3, 1, 1, 10);
        // At leaf 1: of 1 ten tenths, of 2 nine.
        worth(x, 2, 2, 19, 20);
        worth(x, 3, 2, 1, 20);
        UpDrain y = Check.townOf("none 99;cup 0 1 9 0");
        worth(y, 0, 1, 9, 10);
        worth(y, 1, 1, 0, 1);
    }

    private static void worthByWhatIsThought() {
        check.says(0, "WORTH of a CUP: the chance that it would say yes, by what is THOUGHT.");
        UpDrain x = leaves(1, 2, 3);
        Check.tell(x, "none 4;cup 1 1 1 1");
        worth(x, 0, 2, 1, 10);
        x.found(1, 2, 0, 1, true);
        // 9, 2, 3, 4.
        worth(x, 0, 2, 1, 2);
        worth(x, 0, 4, 1, 9);
        worth(x, 0, 8, 1, 6);
        worth(x, 0, 1, 7, 9);
        for (int i = 1; i < 10; i++) {
            x.found(1, 2, 0, 1, true);
        }
        // 2 of 9 to the tenth, 2, 3 and 4.
        long half = (3486784401L + 9) / 2;
        worth(x, 0, 4, 1, half);
        check.due("nothing is found by it", x.count(3), 10);
        // The last minutes of the day.
        check.due("1439, once", x.worth(0, 4, 1439, 1, 1), half);
        check.due("1139, six times", x.worth(0, 4, 1139, 6, 1), half);
    }

    // ---- lacks

    private static void lackingAtItsEnds() {
        check.says(0, "LACKS: NODES from which a source of a STRENGTH, all day, would make each FOUND what it SHOULD be.");
        UpDrain x = leaves(1, 1);
        Check.tell(x, "pipe 11 1 0 1 0;flow 0 999");
        int all = 1 | 2 | 4 | 1 << 11;
        check.due("nothing was found", x.lacks(0), all);
        check.due("nothing was found", x.lacks(9999), all);
        x.found(0, 1, 0, 1, false);
        check.due("0 makes nothing", x.lacks(0), all);
        check.due("1 by 999 makes 1", x.lacks(1), 0);
        x.forget();
        x.found(0, 1, 0, 1, true);
        check.due("0 makes nothing", x.lacks(0), 0);
        check.due("1 by 999 makes 1", x.lacks(1), all);
        Check.tell(x, "flow 1 2");
        check.due("1 by 1001 makes 0", x.lacks(1), 0);
        check.due("2 by 1001 makes 1", x.lacks(2), all);
        x.found(0, 2, 0, 1, true);
        check.due("1 and 11 are above 1", x.lacks(9999), 2 | 1 << 11);
        x.found(0, 1 << 11, 0, 1, false);
        check.due("each of the three", x.lacks(9999), 2);
        x.found(0, 2, 0, 1, false);
        check.due("no one can make both", x.lacks(9999), 0);
        check.says(19, "LACKS, by bits. OUTSIDE: STRENGTH.");
        for (int strength : new int[] {-1, 10000, MIN, MAX}) {
            check.due("lacks(" + strength + ")", x.lacks(strength), OUTSIDE);
        }
        UpDrain y = Check.widest();
        check.due("all twelve", y.lacks(9999), 4095);
        check.due("all twelve", y.lacks(0), 4095);
        // Ten found, the last of which counts as well.
        for (int i = 0; i < 9; i++) {
            y.found(0, 1, 100, 1, true);
        }
        check.due("nine", y.lacks(9999), 4095);
        y.found(0, 1 << 7, 100, 1, true);
        check.due("ten", y.lacks(9999), 1 << 7);
        y.forget();
        check.due("none again", y.lacks(0), 4095);
        y.found(0, 1, 100, 1, false);
        check.due("one", y.lacks(0), 4095);
    }

    private static void lackingAllDay() {
        check.says(0, "LACKS: NODES from which a source of a STRENGTH, all day, would make each FOUND what it SHOULD be.");
        // What is told of sources there, and by how much a cup errs, does not matter.
        UpDrain x = leaves(1, 0);
        Check.tell(x, "gulp 1 5 5;source 1 99 0;gulp 1 5 5;cup 0 1 9 9;source 2 0 0;gulp 2 23 23");
        x.found(0, 1, 0, 1, true);
        x.found(0, 1, 1439, 1, true);
        check.due("in the first and the last minute", x.lacks(1), 7);
        Check.tell(x, "pipe 1 0 1 1 0");
        check.due("in minute 0 it is not there yet", x.lacks(1), 5);
        Check.tell(x, "pipe 2 0 0 1 99");
        check.due("too much is gone", x.lacks(99), 1);
        check.due("enough is left", x.lacks(100), 5);
        // Nothing is changed by it.
        check.due("STRENGTH of 1", x.of(1, 6), 0);
        check.due("HOURS of 2", x.of(2, 7), 23);
        check.due("what comes of 2", x.comes(2, 2, 1439, 0), 0);
    }

    // ---- the calls

    private static void lowestTerms() {
        check.says(0, "Parts are told in lowest terms: above (part 0), below (1).");
        chance(leaves(2, 2), 1, 1, 2);
        chance(leaves(6, 9), 1, 2, 5);
        chance(leaves(97, 89), 1, 97, 186);
        chance(leaves(98, 98), 2, 1, 2);
        two(leaves(2, 2, 4), 1, 2, 1, 5);
        worth(leaves(4, 6), 0, 2, 2, 5);
        UpDrain x = leaves(3, 9);
        x.found(0, 2, 0, 1, false);
        chance(x, 1, 0, 1);
        chance(x, 2, 1, 1);
        worth(x, 0, 2, 0, 1);
        worth(x, 0, 4, 1, 1);
    }

    private static void findingAndForgetting() {
        check.says(13, "FOUND: how many. UNKNOWN; OUTSIDE; FULL.");
        UpDrain x = leaves(1);
        check.due("the first", x.found(3, 3, 1139, 6, false), 1);
        check.due("the second", x.found(0, 1, 0, 1, true), 2);
        check.says(14, "FOUND is empty: how many there were.");
        check.due("forget two", x.forget(), 2);
        check.due("forget none", x.forget(), 0);
        check.due("count(3)", x.count(3), 0);
        for (int i = 1; i <= 10; i++) {
            check.due("found anew " + i, x.found(0, 2, 0, 1, false), i);
        }
        check.due("the eleventh", x.found(0, 2, 0, 1, false), FULL);
        check.due("forget ten", x.forget(), 10);
        check.due("and the first again", x.found(0, 2, 0, 1, true), 1);
        chance(x, 1, 1, 1);
        check.due("forget in a new object", new UpDrain().forget(), 0);
    }

    private static void chanceRefused() {
        check.says(15, "CHANCE of a SOURCE, or of none (NONE). UNKNOWN; OUTSIDE; NOT: all THOUGHT is 0.");
        UpDrain x = leaves(1, 1, 0);
        for (int source : new int[] {-2, 0, 3, 4, 11, 12, 33, MIN, MAX}) {
            check.due("chance(" + source + ", 0)", x.chance(source, 0), UNKNOWN);
            check.due("chance(" + source + ", 2)", x.chance(source, 2), UNKNOWN);
        }
        for (int part : new int[] {-1, 2, MIN, MAX}) {
            check.due("chance(1, " + part + ")", x.chance(1, part), OUTSIDE);
            check.due("chance(NONE, " + part + ")", x.chance(NONE, part), OUTSIDE);
        }
        x.found(0, 2, 0, 1, true);
        chance(x, 2, 0, 1);
        x.found(0, 4, 0, 1, true);
        for (int source : new int[] {NONE, 1, 2}) {
            check.due("all is 0", x.chance(source, 0), NOT);
            check.due("all is 0", x.chance(source, 1), NOT);
            check.due("outside goes ahead", x.chance(source, 2), OUTSIDE);
        }
        check.due("unknown goes ahead", x.chance(0, 0), UNKNOWN);
        check.due("no SOURCE, and none is not LIKELY", new UpDrain().chance(NONE, 0), NOT);
        check.due("no SOURCE, and none is not LIKELY", new UpDrain().chance(NONE, 1), NOT);
    }

    private static void twoRefused() {
        check.says(16, "TWO: of both. UNKNOWN: also one twice; OUTSIDE; NOT: all THOUGHT of pairs is 0.");
        UpDrain x = leaves(1, 1, 0);
        for (int other : new int[] {1, -1, -2, 0, 3, 4, 11, 12, 34, MIN, MAX}) {
            check.due("two(1, " + other + ", 0)", x.two(1, other, 0), UNKNOWN);
            check.due("two(" + other + ", 1, 1)", x.two(other, 1, 1), UNKNOWN);
            check.due("two(1, " + other + ", 2)", x.two(1, other, 2), UNKNOWN);
        }
        for (int part : new int[] {-1, 2, MIN, MAX}) {
            check.due("two(1, 2, " + part + ")", x.two(1, 2, part), OUTSIDE);
        }
        // That both were found may be by two and by no one.
        x.found(0, 2, 0, 1, true);
        x.found(0, 4, 0, 1, true);
        two(x, 1, 2, 1, 1);
        check.due("by no one", x.chance(1, 0), NOT);
        x.forget();
        x.found(0, 2, 0, 1, false);
        check.due("by no two", x.two(1, 2, 0), NOT);
        check.due("by no two", x.two(2, 1, 1), NOT);
        check.due("outside goes ahead", x.two(1, 2, 2), OUTSIDE);
        check.due("unknown goes ahead", x.two(1, 1, 0), UNKNOWN);
        chance(x, 2, 1, 1);
    }

    private static void worthRefused() {
        check.says(17, "WORTH. UNKNOWN: CUP; OUTSIDE; NOT: all THOUGHT is 0.");
        UpDrain x = leaves(1, 1);
        check.due("cup 4", x.worth(4, 0, -1, 0, 2), UNKNOWN);
        check.due("cup -1", x.worth(-1, 1, 0, 1, 0), UNKNOWN);
        check.due("set 0", x.worth(0, 0, 0, 1, 0), OUTSIDE);
        check.due("set 8", x.worth(0, 8, 0, 1, 0), OUTSIDE);
        check.due("minute -1", x.worth(0, 1, -1, 1, 0), OUTSIDE);
        check.due("minute 1440", x.worth(0, 1, 1440, 1, 0), OUTSIDE);
        check.due("n 0", x.worth(0, 1, 0, 0, 0), OUTSIDE);
        check.due("n 7", x.worth(0, 1, 0, 7, 0), OUTSIDE);
        check.due("beyond the day", x.worth(0, 1, 1140, 6, 0), OUTSIDE);
        check.due("within the day", x.worth(0, 1, 1139, 6, 0), 1);
        check.due("part 2", x.worth(0, 1, 0, 1, 2), OUTSIDE);
        check.due("part -1", x.worth(0, 1, 0, 1, -1), OUTSIDE);
        x.found(0, 2, 0, 1, true);
        x.found(0, 2, 0, 1, false);
        check.due("all is 0", x.worth(0, 1, 0, 1, 0), NOT);
        check.due("all is 0", x.worth(0, 1, 0, 1, 1), NOT);
        check.due("outside goes ahead", x.worth(0, 8, 0, 1, 0), OUTSIDE);
        check.due("outside goes ahead", x.worth(0, 1, 0, 1, 2), OUTSIDE);
        check.due("a new object", new UpDrain().worth(0, 1, 0, 1, 0), NOT);
    }

    private static void theLikeliest() {
        check.says(18, "The SOURCE of the most THOUGHT, of several the least;");
        check.due("one", leaves(1).likeliest(), 1);
        check.due("the most", leaves(1, 2, 1).likeliest(), 2);
        check.due("one more", leaves(98, 99, 98).likeliest(), 2);
        check.due("of several the least", leaves(1, 2, 2).likeliest(), 2);
        check.due("of all the least", leaves(9, 9, 9).likeliest(), 1);
        check.due("the last", leaves(1, 1, 1, 1, 1, 1, 1, 1, 1, 1, 2).likeliest(), 11);
        UpDrain x = leaves(9, 9, 9);
        Check.tell(x, "source 0 9 9");
        check.due("the OUTFALL", x.likeliest(), 0);
        x.found(0, 1, 0, 1, true);
        x.found(0, 2, 0, 1, false);
        check.due("the least of those by which it may be", x.likeliest(), 0);
        x.found(0, 12, 0, 1, true);
        check.due("what was found", x.likeliest(), 2);
    }

    private static void noLikeliest() {
        check.says(18, "NONE: that there is none is THOUGHT as much, or more, or there is no SOURCE.");
        UpDrain x = leaves(9, 5);
        Check.tell(x, "none 8");
        check.due("less", x.likeliest(), 1);
        Check.tell(x, "none 9");
        check.due("as much", x.likeliest(), NONE);
        Check.tell(x, "none 10");
        check.due("more", x.likeliest(), NONE);
        x.found(0, 1, 0, 1, true);
        check.due("it can't be none", x.likeliest(), 1);
        x.found(0, 1, 0, 1, false);
        check.due("nothing can be", x.likeliest(), NONE);
        check.due("no SOURCE", new UpDrain().likeliest(), NONE);
        check.due("no SOURCE", Check.townOf("none 1").likeliest(), NONE);
        check.due("no SOURCE", leaves(0, 0).likeliest(), NONE);
    }

    /** The greatest numbers that THOUGHTS can be, told as they are where nothing divides them. */
    private static void theGreatestThoughts() {
        check.says(0, "Parts are told in lowest terms: above (part 0), below (1).");
        UpDrain x = leaves(99, 98, 97, 99, 99, 99, 99, 99, 99, 99, 99);
        Check.tell(x, "source 0 99 100;none 99;cup 0 1 0 1;cup 1 1 0 0");
        x.found(0, 2, 0, 1, false);
        for (int i = 1; i < 10; i++) {
            x.found(1, 8, 0, 1, false);
        }
        // Of 3 nothing is left, of 1 a tenth; of all others 10 to the tenth times LIKELY.
        BigInteger ten = BigInteger.TEN.pow(10);
        BigInteger first = BigInteger.valueOf(99).multiply(BigInteger.TEN.pow(9));
        BigInteger all = BigInteger.valueOf(98 + 99 * 10).multiply(ten).add(first);
        parts(x.chance(2, 0), x.chance(2, 1), BigInteger.valueOf(98).multiply(ten), all);
        parts(x.chance(1, 0), x.chance(1, 1), first, all);
        parts(x.worth(0, 2, 0, 1, 0), x.worth(0, 2, 0, 1, 1), first.multiply(BigInteger.valueOf(9)), all.multiply(BigInteger.TEN));
        // Pairs: with 3 none; with 1 a tenth; the others 98 and nine of 99.
        BigInteger others = BigInteger.valueOf(98 * 99 * 9 + 99 * 99 * 36).multiply(ten);
        BigInteger withFirst = BigInteger.valueOf(99 * (98 + 99 * 9)).multiply(BigInteger.TEN.pow(9));
        parts(x.two(1, 2, 0), x.two(1, 2, 1), BigInteger.valueOf(99 * 98).multiply(BigInteger.TEN.pow(9)), others.add(withFirst));
        parts(x.two(2, 11, 0), x.two(2, 11, 1), BigInteger.valueOf(99 * 98).multiply(ten), others.add(withFirst));
    }

    private static void parts(long above, long below, BigInteger dueAbove, BigInteger dueBelow) {
        BigInteger by = dueAbove.gcd(dueBelow);
        check.due("above", above, dueAbove.divide(by).longValueExact());
        check.due("below", below, dueBelow.divide(by).longValueExact());
    }
}
