import java.util.Arrays;

/** The bounds of searches, sentence by sentence: promises 20 to 26 and their terms. */
public final class SearchBoundsTest {
    private static final int NONE = UpDrain.NONE, UNKNOWN = UpDrain.UNKNOWN, OUTSIDE = UpDrain.OUTSIDE, NOT = UpDrain.NOT;
    private static final int MIN = Integer.MIN_VALUE, MAX = Integer.MAX_VALUE;
    private static final Check check = new Check();

    public static void main(String[] args) {
        oneOrNone();
        fewestByHalves();
        fewestOfLeaves();
        theLeastFirstLid();
        aboveTheLidItself();
        meanAtItsEnds();
        soonAtItsEnds();
        soonOfTheLongestWays();
        soonsLeastLid();
        oneToEightLids();
        kindsAtTheirEnds();
        shyAtItsEnds();
        shyFromTheNextOneOn();
        hangMoreThan();
        hangTheFewest();
        hangAtItsEnds();
        seedsAtTheirEnds();
        sourceByLikely();
        wrongAnswers();
        aDrawForEachAnswer();
        lidsByWhatIsLeft();
        oneIsLeft();
        refusedSearches();
        refusedRows();
        refusedAnswers();
        refusedDays();
        check.end("SearchBoundsTest");
    }

    /** 0 - 1 - .. - 11, a minute's walk each; NODES below that many are SOURCES. */
    private static UpDrain row(int sources) {
        UpDrain x = new UpDrain();
        for (int node = 1; node < 12; node++) {
            Check.tell(x, "pipe " + node + " " + (node - 1) + " 0 1 0");
        }
        for (int node = 0; node < sources; node++) {
            Check.tell(x, "source " + node + " 1 1");
        }
        return x;
    }

    /** Leaves 1 .. 11 at the OUTFALL; the first so many of them are SOURCES, of that LIKELY. */
    private static UpDrain leaves(int walk, int... likely) {
        UpDrain x = new UpDrain();
        for (int node = 1; node < 12; node++) {
            Check.tell(x, "pipe " + node + " 0 0 " + walk + " 0");
        }
        for (int i = 0; i < likely.length; i++) {
            Check.tell(x, "source " + (i + 1) + " " + likely[i] + " 1");
        }
        return x;
    }

    private static void fewest(UpDrain x, int lids, int first) {
        check.due("fewest(0)", x.fewest(0), lids);
        check.due("fewest(1)", x.fewest(1), first);
    }

    private static void mean(UpDrain x, int above, int below) {
        check.due("mean(0)", x.mean(0), above);
        check.due("mean(1)", x.mean(1), below);
    }

    private static void soon(UpDrain x, int node, int minutes, int first) {
        check.due("soon(" + node + ", 0)", x.soon(node, 0), minutes);
        check.due("soon(" + node + ", 1)", x.soon(node, 1), first);
    }

    private static void kinds(UpDrain x, int row, int n, int r, int kinds, int largest) {
        check.due("row(" + row + ", " + n + ", " + r + ", 0)", x.row(row, n, r, 0), kinds);
        check.due("row(" + row + ", " + n + ", " + r + ", 1)", x.row(row, n, r, 1), largest);
    }

    private static void answers(UpDrain x, int source, int row, int n, int r, int due) {
        check.due("answers(" + source + ", " + row + ", " + n + ", " + r + ")", x.answers(source, row, n, r), due);
    }

    // ---- fewest, mean, soon

    private static void oneOrNone() {
        check.says(0, "LIDS in the worst case till it is known (0 for one or none)");
        UpDrain x = row(0);
        Check.tell(x, "lift 60;none 99");
        nothingToSearch(x);
        for (int node = 0; node < 12; node++) {
            Check.tell(x, "source " + node + " 99 1");
            nothingToSearch(x);
            mean(x, 0, 1);
            Check.tell(x, "source " + node + " 0 1");
        }
        check.says(20, "FEWEST (what 0), the first LID (1; NONE: none is needed). OUTSIDE.");
        fewest(new UpDrain(), 0, NONE);
        fewest(Check.townOf("source 0 1 1"), 0, NONE);
        fewest(row(1), 0, NONE);
        fewest(row(2), 1, 1);
    }

    private static void nothingToSearch(UpDrain x) {
        fewest(x, 0, NONE);
        for (int node = 0; node < 12; node++) {
            soon(x, node, 0, NONE);
        }
        check.due("hang(0)", x.hang(0), 0);
    }

    private static void fewestByHalves() {
        check.says(0, "LIDS in the worst case till it is known (0 for one or none), the first LID: the least by which so many are enough.");
        int[] lids = {0, 0, 1, 2, 2, 3, 3, 3, 3, 4, 4, 4, 4};
        // Behind the first LID 1, 2, 4, 8 at most may be left on either side.
        int[] first = {NONE, NONE, 1, 1, 2, 1, 2, 3, 4, 1, 2, 3, 4};
        for (int sources = 0; sources <= 12; sources++) {
            fewest(row(sources), lids[sources], first[sources]);
        }
    }

    private static void fewestOfLeaves() {
        check.says(0, "LIDS in the worst case till it is known (0 for one or none)");
        int[] likely = new int[0];
        for (int sources = 1; sources <= 11; sources++) {
            likely = Arrays.copyOf(likely, sources);
            likely[sources - 1] = 1;
            fewest(leaves(1, likely), sources - 1, sources == 1 ? NONE : 1);
        }
        // The OUTFALL as the twelfth.
        fewest(Check.widest(), 11, 1);
    }

    private static void theLeastFirstLid() {
        check.says(0, "the first LID: the least by which so many are enough.");
        // By a LID at a NODE that is no SOURCE, also if a greater one does as well.
        UpDrain x = Check.townOf("pipe 1 0 0 1 0;pipe 5 1 0 1 0;pipe 6 0 0 1 0;source 5 1 1;source 6 1 1");
        fewest(x, 1, 1);
        // Both are ABOVE 1 then, and a LID there tells nothing.
        Check.tell(x, "pipe 6 1 0 1 0");
        fewest(x, 1, 5);
        // A LID at the lower one of two in a row tells nothing, the one next above it does.
        UpDrain y = row(0);
        Check.tell(y, "source 3 1 1;source 11 1 1");
        fewest(y, 1, 4);
        Check.tell(y, "source 3 0 1;source 10 1 1");
        fewest(y, 1, 11);
    }

    private static void aboveTheLidItself() {
        check.says(0, "SEARCH: there is one of the SOURCES; a LID lifted at a NODE tells whether it is ABOVE it.");
        // One at the LID's own NODE is ABOVE it; one next below it is not.
        UpDrain x = row(12);
        for (int node = 1; node < 12; node++) {
            answers(x, node, node, 1, -1, 1);
            answers(x, node - 1, node, 1, -1, 0);
            answers(x, node, 0, 1, -1, 1);
        }
        // None is no part of it: two SOURCES need one LID, however LIKELY none is.
        UpDrain y = leaves(1, 1, 1);
        Check.tell(y, "none 99");
        fewest(y, 1, 1);
        mean(y, 1, 1);
        check.due("LIDS of a day", y.day(0, 0, 3), 1);
        // What was found has no part in it.
        y.found(0, 2, 0, 1, false);
        fewest(y, 1, 1);
        soon(y, 0, 1, 1);
    }

    private static void meanAtItsEnds() {
        check.says(0, "MEAN: LIKELY of each times its LIDS, together, at the least, by LIKELY together.");
        mean(leaves(1, 99), 0, 1);
        mean(leaves(1, 1), 0, 1);
        mean(leaves(1, 99, 1), 1, 1);
        mean(leaves(1, 99, 99), 1, 1);
        // The likeliest is looked for first: 99 + 2 + 2 by 101.
        mean(leaves(1, 99, 1, 1), 103, 101);
        mean(leaves(1, 1, 1, 99), 103, 101);
        // 99 + 2 * 98 + 2 * 97 by 294, in lowest terms.
        mean(leaves(1, 98, 99, 97), 489 / 3, 294 / 3);
        int[] all = new int[11];
        Arrays.fill(all, 99);
        UpDrain x = leaves(1, all);
        // 1 + 2 + .. + 10 and 10, by 11.
        mean(x, 65, 11);
        Check.tell(x, "source 0 99 1");
        mean(x, 77, 12);
        // In a row by halves: four are found by three LIDS, eight by four: 44 by 12.
        mean(row(12), 11, 3);
        mean(row(8), 3, 1);
        check.says(21, "MEAN. OUTSIDE; NOT: there are no SOURCES.");
        check.due("no SOURCES", leaves(1, 0).mean(0), NOT);
        check.due("no SOURCES", leaves(1, 0).mean(1), NOT);
        check.due("one, with none as LIKELY", Check.townOf("source 0 1 1;none 99").mean(1), 1);
    }

    private static void soonAtItsEnds() {
        check.says(0, "SOON from a NODE: the least minutes in the worst case, WALK and LIFT for each LID");
        UpDrain x = leaves(60, 1, 1);
        soon(x, 0, 60, 1);
        soon(x, 1, 0, 1);
        soon(x, 2, 0, 2);
        soon(x, 11, 120, 1);
        Check.tell(x, "lift 60");
        soon(x, 0, 120, 1);
        soon(x, 1, 60, 1);
        soon(x, 2, 60, 2);
        soon(x, 11, 180, 1);
        Check.tell(x, "lift 1");
        soon(x, 1, 1, 1);
        check.says(22, "SOON from a NODE: minutes (what 0), the first LID (1; NONE). UNKNOWN; OUTSIDE.");
        UpDrain y = leaves(1, 5);
        Check.tell(y, "lift 60");
        soon(y, 7, 0, NONE);
        soon(new UpDrain(), 0, 0, NONE);
    }

    private static void soonOfTheLongestWays() {
        check.says(0, "SOON from a NODE: the least minutes in the worst case, WALK and LIFT for each LID");
        // Eleven LIDS at leaves 60 from the OUTFALL.
        UpDrain x = leaves(60, 1, 1, 1, 1, 1, 1, 1, 1, 1, 1, 1);
        Check.tell(x, "source 0 1 1;lift 60");
        soon(x, 0, 60 + 10 * 120 + 11 * 60, 1);
        soon(x, 1, 10 * 120 + 11 * 60, 1);
        soon(x, 11, 10 * 120 + 11 * 60, 11);
        // In a row: LIDS that cost nothing are lifted one by one on the way up.
        UpDrain y = row(12);
        soon(y, 0, 11, 1);
        // From above down to 1; or first to 6, and from there up or down: the least one.
        soon(y, 11, 10, 6);
        soon(y, 6, 5, 6);
    }

    private static void soonsLeastLid() {
        check.says(0, "and the first LID, the least one.");
        UpDrain x = leaves(7, 1, 1, 1);
        Check.tell(x, "lift 3");
        soon(x, 0, 7 + 3 + 14 + 3, 1);
        soon(x, 2, 3 + 14 + 3, 2);
        soon(x, 4, 14 + 3 + 14 + 3, 1);
        // A greater LID, if it is nearer.
        Check.tell(x, "pipe 3 0 0 6 0;source 1 0 1");
        soon(x, 0, 6 + 3, 3);
        Check.tell(x, "pipe 3 0 0 7 0");
        soon(x, 0, 7 + 3, 2);
        // One that tells nothing is not lifted, even where that costs nothing.
        UpDrain y = row(0);
        Check.tell(y, "source 10 1 1;source 11 1 1");
        soon(y, 0, 11, 11);
        soon(y, 11, 0, 11);
    }

    // ---- rows

    private static void oneToEightLids() {
        check.says(0, "ROW of LIDS (1 .. 8)");
        UpDrain x = row(12);
        for (int n = 1; n <= 8; n++) {
            // LIDS 1 .. n: each one parts one more of them from those above.
            kinds(x, 0x87654321, n, -1, n + 1, 12 - n);
            answers(x, 11, 0x87654321, n, -1, (1 << n) - 1);
            answers(x, 0, 0x87654321, n, -1, 0);
            answers(x, 8, 0x87654321, n, -1, (1 << n) - 1);
            answers(x, n, 0x87654321, n, -1, (1 << n) - 1);
            answers(x, n - 1, 0x87654321, n, -1, (1 << n - 1) - 1);
        }
        check.says(23, "A ROW of n LIDS (LID i row >> 4 i & 15): KINDS (what 0), LARGEST (1);");
        // The eighth LID, in a row below 0; LIDS behind n are not looked at.
        kinds(x, 0xb0000000, 8, -1, 2, 11);
        answers(x, 11, 0xb0000000, 8, -1, 255);
        answers(x, 10, 0xb0000000, 8, -1, 127);
        kinds(x, 0xf0000000, 7, -1, 1, 12);
        kinds(x, -16, 1, -1, 1, 12);
        kinds(x, MIN, 7, -1, 1, 12);
        kinds(x, MIN, 8, -1, 2, 8);
        kinds(x, 0x7bbbbbbb, 8, -1, 3, 7);
        check.due("one LID eight times", x.row(0xbbbbbbbb, 8, -1, 0), 2);
    }

    private static void kindsAtTheirEnds() {
        check.says(0, "each SOURCE has a row of ANSWERS; KINDS: how many unlike ones, LARGEST: of how many SOURCES the greatest kind is.");
        kinds(row(0), 0x21, 2, -1, 0, 0);
        kinds(row(0), 0x21, 2, 5, 0, 0);
        kinds(row(1), 0x21, 2, -1, 1, 1);
        kinds(row(2), 0x2, 1, -1, 1, 2);
        kinds(row(2), 0x1, 1, -1, 2, 1);
        kinds(row(12), 0x0, 1, -1, 1, 12);
        kinds(row(9), 0x87654321, 8, -1, 9, 1);
        kinds(row(10), 0x87654321, 8, -1, 9, 2);
        // Two kinds that are as great.
        kinds(row(12), 0x6, 1, -1, 2, 6);
        kinds(row(12), 0x93, 2, -1, 3, 6);
        // LIKELY does not count, but for 0.
        UpDrain x = row(2);
        Check.tell(x, "source 0 99 1;source 1 1 1;source 2 0 99");
        kinds(x, 0x1, 1, -1, 2, 1);
    }

    private static void shyAtItsEnds() {
        check.says(0, "SHY: a source stops behind the first LID that is r minutes to WALK at most from it");
        UpDrain x = row(12);
        // The LIDS are 7 and then 9; from SOURCE 11 they are 4 and 2 to WALK.
        answers(x, 11, 0x97, 2, 3, 3);
        answers(x, 11, 0x97, 2, 4, 1);
        answers(x, 11, 0x97, 2, 5, 1);
        answers(x, 11, 0x97, 2, 0, 3);
        answers(x, 11, 0x97, 2, -1, 3);
        answers(x, 11, 0x97, 2, 999, 1);
        // From SOURCE 7 and 8: at LID 7 itself, r 0.
        answers(x, 7, 0x17, 2, 0, 1);
        answers(x, 7, 0x17, 2, -1, 3);
        answers(x, 8, 0x17, 2, 0, 3);
        answers(x, 8, 0x17, 2, 1, 1);
        // By a LID that says no it is stopped too.
        answers(x, 5, 0x17, 2, 1, 2);
        answers(x, 5, 0x17, 2, 2, 0);
        check.says(23, "SHY with r (0 .. 999), or not (r -1).");
        UpDrain y = Check.townOf("pipe 11 0 0 60 0;pipe 10 9 0 60 0;pipe 9 8 0 60 0;pipe 8 7 0 60 0", "pipe 7 6 0 60 0;pipe 6 5 0 60 0",
            "pipe 5 4 0 60 0;pipe 4 3 0 60 0;pipe 3 2 0 60 0;pipe 2 1 0 60 0;pipe 1 0 0 60 0", "source 10 1 1;source 11 1 1");
        answers(y, 11, 0xba, 2, 659, 2);
        answers(y, 11, 0xba, 2, 660, 0);
        answers(y, 11, 0xba, 2, 999, 0);
        kinds(y, 0xba, 2, -1, 2, 1);
        kinds(y, 0xba, 2, 999, 2, 1);
        kinds(y, 0xb0, 2, 999, 1, 2);
        kinds(y, 0xb0, 2, 0, 2, 1);
        kinds(y, 0xb0, 2, 59, 2, 1);
        kinds(y, 0xb0, 2, 60, 1, 2);
    }

    private static void shyFromTheNextOneOn() {
        check.says(0, "(ANSWERS are no from the next one on)");
        UpDrain x = row(12);
        // Eight LIDS at the OUTFALL: all yes, till it stops.
        for (int source = 0; source < 12; source++) {
            answers(x, source, 0, 8, -1, 255);
            answers(x, source, 0, 8, source, 1);
            answers(x, source, 0, 8, source - 1, 255);
        }
        // The LID behind which it stops is the last of the row.
        answers(x, 11, 0xb0000000, 8, 0, 255);
        answers(x, 11, 0x0b000000, 8, 0, 127);
        answers(x, 11, 0x0000000b, 8, 0, 1);
        // Once stopped it stays so, however far the LIDS behind.
        answers(x, 11, 0x000000a0, 8, 1, 3);
        answers(x, 11, 0x00000a00, 8, 1, 7);
    }

    // ---- hang

    private static void hangMoreThan() {
        check.says(0, "HANG: sets of NODES so that each two SOURCES, more than d minutes to WALK apart, are unlike in which of these they are ABOVE");
        UpDrain x = Check.townOf("pipe 1 0 0 3 0;pipe 2 0 0 4 0;source 1 1 1;source 2 1 1");
        check.due("less than they are apart", x.hang(6), 2);
        check.due("as much", x.hang(7), 0);
        check.due("more", x.hang(8), 0);
        check.due("0", x.hang(0), 2);
        Check.tell(x, "source 0 1 1");
        check.due("3, 4 and 7 apart: all", x.hang(2), 6);
        check.due("4 and 7", x.hang(3), 4);
        check.due("7", x.hang(4), 2);
        check.due("7", x.hang(6), 2);
        check.due("none", x.hang(7), 0);
        UpDrain y = row(12);
        check.due("hang(0)", y.hang(0), 4094);
        check.due("hang(10)", y.hang(10), 2);
        check.due("hang(11)", y.hang(11), 0);
    }

    private static void hangTheFewest() {
        check.says(0, "the fewest; of several the least number.");
        // 5 and 6 are two apart in a fork: a cup at either tells; 5 is the lesser.
        UpDrain x = Check.townOf("pipe 4 0 0 1 0;pipe 5 4 0 1 0;pipe 6 4 0 1 0;source 5 1 1;source 6 1 1");
        check.due("the lesser", x.hang(0), 1 << 5);
        // With the OUTFALL: one at 4 tells it from both, one more tells these; 5 and 6 do so as well, and are more as a number.
        Check.tell(x, "source 0 1 1");
        check.due("4 and 5", x.hang(0), 1 << 4 | 1 << 5);
        check.due("all but 5 and 6", x.hang(2), 0);
        check.due("all but those two", x.hang(1), 1 << 4 | 1 << 5);
        // One cup of a great number is fewer than two of small ones.
        UpDrain y = Check.townOf("pipe 1 0 0 1 0;pipe 2 0 0 1 0;pipe 11 0 0 9 0;source 1 1 1;source 2 1 1;source 11 1 1;source 0 1 1");
        check.due("one great one", y.hang(2), 1 << 11);
        check.due("all leaves", y.hang(0), 1 << 1 | 1 << 2 | 1 << 11);
        check.due("all leaves but one", y.hang(1), 1 << 1 | 1 << 11);
    }

    private static void hangAtItsEnds() {
        check.says(25, "HANG for d (0 .. 999), by bits. OUTSIDE.");
        UpDrain x = Check.townOf("pipe 11 0 0 60 0;pipe 10 9 0 60 0;pipe 9 8 0 60 0;pipe 8 7 0 60 0", "pipe 7 6 0 60 0;pipe 6 5 0 60 0",
            "pipe 5 4 0 60 0;pipe 4 3 0 60 0;pipe 3 2 0 60 0;pipe 2 1 0 60 0;pipe 1 0 0 60 0", "source 10 1 1;source 11 1 1");
        check.due("hang(0)", x.hang(0), 2);
        check.due("hang(659)", x.hang(659), 2);
        check.due("hang(660)", x.hang(660), 0);
        check.due("hang(999)", x.hang(999), 0);
        for (int d : new int[] {-1, 1000, MIN, MAX}) {
            check.due("hang(" + d + ")", x.hang(d), OUTSIDE);
            check.due("hang(" + d + "), no SOURCES", new UpDrain().hang(d), OUTSIDE);
        }
        check.due("no SOURCES", new UpDrain().hang(0), 0);
        check.due("one SOURCE", row(1).hang(0), 0);
        check.due("all leaves", Check.widest().hang(0), 4094);
    }

    // ---- days

    /** SEED behind so many draws. */
    private static int seedBehind(int seed, int draws) {
        long s = seed;
        for (int i = 0; i < draws; i++) {
            s = Math.floorMod(s * 25173 + 13849, 65536L);
        }
        return (int) s;
    }

    private static int draw(int seed, int which) {
        return seedBehind(seed, which) / 64;
    }

    private static void day(UpDrain x, int seed, int cup, int minutes, int guessed, int source, int lids) {
        int[] due = {minutes, guessed, source, lids};
        for (int what = 0; what < due.length; what++) {
            check.due("day(" + seed + ", " + cup + ", " + what + ")", x.day(seed, cup, what), due[what]);
        }
    }

    private static void seedsAtTheirEnds() {
        check.says(0, "A DAY by SEED (0 .. 65535), with a CUP: SEED becomes SEED times 25173 and 13849 modulo 65536 ahead of each draw; the draw is SEED by 64.");
        // LIKELY together are 1089, more than any draw, so that the draw itself is seen by 99.
        UpDrain x = leaves(1, 99, 99, 99, 99, 99, 99, 99, 99, 99, 99, 99);
        // 13849 by 64 is 216.
        check.due("SEED 0", x.day(0, 0, 2), 1 + 216 / 99);
        // 65535 times 25173 and 13849 is 54212 modulo 65536, by 64 847.
        check.due("SEED 65535", x.day(65535, 0, 2), 1 + 847 / 99);
        // 39022 by 64 is 609.
        check.due("SEED 1", x.day(1, 0, 2), 1 + 609 / 99);
        for (int seed : new int[] {-1, 65536, MIN, MAX}) {
            check.due("SEED " + seed, x.day(seed, 0, 2), OUTSIDE);
        }
        for (int seed = 0; seed < 65536; seed += 181) {
            check.due("SEED " + seed, x.day(seed, 0, 2), 1 + draw(seed, 1) / 99);
        }
        // The same SEED is the same day, whatever was asked between.
        check.due("SEED 0 again", x.day(0, 0, 2), 3);
    }

    private static void sourceByLikely() {
        check.says(0, "A SOURCE: draw modulo all LIKELY together, by LIKELY from the least NODE on.");
        UpDrain x = leaves(1, 2, 1, 0, 3);
        Check.tell(x, "source 0 1 1;source 11 1 1;none 99");
        // Of 8: 0, then 1, 1, 2, 4, 4, 4, 11.
        int[] due = {0, 1, 1, 2, 4, 4, 4, 11};
        boolean[] seen = new boolean[8];
        for (int seed = 0; seed < 400; seed++) {
            int rest = draw(seed, 1) % 8;
            seen[rest] = true;
            check.due("SEED " + seed, x.day(seed, 0, 2), due[rest]);
        }
        for (int rest = 0; rest < 8; rest++) {
            check.due("a draw of " + rest, seen[rest] ? 1 : 0, 1);
        }
        // The edges of each of twelve by 99.
        UpDrain y = leaves(1, 99, 99, 99, 99, 99, 99, 99, 99, 99, 99, 99);
        for (int edge = 99; edge < 1024; edge += 99) {
            check.due("draw " + (edge - 1), y.day(seedThatDraws(edge - 1), 0, 2), edge / 99);
            check.due("draw " + edge, y.day(seedThatDraws(edge), 0, 2), edge / 99 + 1);
        }
        check.due("draw 0", y.day(seedThatDraws(0), 0, 2), 1);
        check.due("draw 1023", y.day(seedThatDraws(1023), 0, 2), 11);
        UpDrain z = leaves(1, 0, 1);
        for (int draw = 0; draw < 8; draw++) {
            check.due("LIKELY 1 alone, draw " + draw, z.day(seedThatDraws(draw), 0, 2), 2);
        }
    }

    private static int seedThatDraws(int draw) {
        for (int seed = 0; seed < 65536; seed++) {
            if (draw(seed, 1) == draw) {
                return seed;
            }
        }
        return -1;
    }

    private static void wrongAnswers() {
        check.says(0, "an ANSWER is WRONG, if a draw modulo 10 is less than A (it should be no) or B.");
        boolean[] seen = new boolean[20];
        for (int tenths = 0; tenths < 10; tenths++) {
            UpDrain x = leaves(1, 1, 1);
            Check.tell(x, "cup 0 1 " + tenths + " 0;cup 1 1 0 " + tenths);
            for (int seed = tenths; seed < 800; seed += 37) {
                int source = 1 + draw(seed, 1) % 2;
                int rest = draw(seed, 2) % 10;
                int other = 3 - source;
                seen[rest + 10 * (source - 1)] = true;
                // The one LID is 1: yes should be for SOURCE 1, no for SOURCE 2.
                check.due("A " + tenths + ", SEED " + seed, x.day(seed, 0, 1), source == 2 && rest < tenths ? other : source);
                check.due("B " + tenths + ", SEED " + seed, x.day(seed, 1, 1), source == 1 && rest < tenths ? other : source);
                check.due("SOURCE, SEED " + seed, x.day(seed, 0, 2), source);
            }
        }
        for (int i = 0; i < 20; i++) {
            check.due("a draw of " + i, seen[i] ? 1 : 0, 1);
        }
    }

    private static void aDrawForEachAnswer() {
        check.says(0, "SEED becomes SEED times 25173 and 13849 modulo 65536 ahead of each draw");
        // LIDS 1, 2, 3 one by one, till one says yes; each ANSWER by the next draw.
        for (int seed = 0; seed < 3000; seed += 11) {
            UpDrain x = leaves(2, 1, 1, 1, 1);
            Check.tell(x, "lift 5;cup 0 1 3 7");
            int source = 1 + draw(seed, 1) % 4;
            int lid = 1;
            boolean yes = false;
            while (lid < 4 && !yes) {
                boolean right = lid == source;
                yes = draw(seed, lid + 1) % 10 < (right ? 7 : 3) ? !right : right;
                lid += yes ? 0 : 1;
            }
            int lids = Math.min(lid, 3);
            day(x, seed, 0, 2 + 5 + (lids - 1) * 9, lid, source, lids);
        }
    }

    private static void lidsByWhatIsLeft() {
        check.says(0, "From NODE 0 SOON's LIDS are lifted, each by what is left by ANSWERS so far;");
        // In a row of four, a LID of ten minutes: to 2, then to 1 or to 3.
        UpDrain x = row(4);
        Check.tell(x, "lift 10");
        for (int source = 0; source < 4; source++) {
            day(x, seedThatDraws(source), 0, 2 + 10 + 1 + 10, source, source, 2);
        }
        // Without lift one by one from 1 on; what is left is known by the first LID that says no.
        Check.tell(x, "lift 0");
        for (int source = 0; source < 4; source++) {
            int lids = Math.min(source + 1, 3);
            day(x, seedThatDraws(source), 0, lids, source, source, lids);
        }
        // By wrong ANSWERS others are left: always yes where it should be no.
        Check.tell(x, "cup 1 1 9 0");
        int seed = 0;
        while (draw(seed, 1) % 4 != 0 || draw(seed, 2) % 10 == 9 || draw(seed, 3) % 10 == 9 || draw(seed, 4) % 10 == 9) {
            seed++;
        }
        day(x, seed, 1, 3, 3, 0, 3);
        while (draw(seed, 1) % 4 != 0 || draw(seed, 2) % 10 == 9 || draw(seed, 3) % 10 != 9) {
            seed++;
        }
        day(x, seed, 1, 2, 1, 0, 2);
    }

    private static void oneIsLeft() {
        check.says(0, "It ends when one is left: GUESSED.");
        // One SOURCE: nothing is lifted, by whatever cup.
        UpDrain x = leaves(60, 0, 0, 5);
        Check.tell(x, "lift 60;cup 3 1 9 9");
        day(x, 0, 3, 0, 3, 3, 0);
        day(x, 65535, 0, 0, 3, 3, 0);
        // Two: one LID; from the OUTFALL, where the first one is the least.
        Check.tell(x, "source 2 5 1");
        day(x, 0, 0, 120, 2 + draw(0, 1) % 10 / 5, 2 + draw(0, 1) % 10 / 5, 1);
        // Twelve leaves: the last one's day takes all eleven LIDS.
        UpDrain y = Check.widest();
        Check.tell(y, "lift 60;source 0 1 1");
        int seed = 0;
        while (draw(seed, 1) % 12 != 11) {
            seed++;
        }
        day(y, seed, 0, 3 + 10 * 6 + 11 * 60, 11, 11, 11);
        while (draw(seed, 1) % 12 != 0) {
            seed++;
        }
        day(y, seed, 0, 3 + 10 * 6 + 11 * 60, 0, 0, 11);
    }

    // ---- refused

    private static void refusedSearches() {
        UpDrain x = row(3);
        check.says(20, "FEWEST (what 0), the first LID (1; NONE: none is needed). OUTSIDE.");
        for (int what : new int[] {-1, 2, MIN, MAX}) {
            check.due("fewest(" + what + ")", x.fewest(what), OUTSIDE);
            check.due("fewest(" + what + "), no SOURCES", new UpDrain().fewest(what), OUTSIDE);
        }
        check.says(21, "MEAN. OUTSIDE; NOT: there are no SOURCES.");
        for (int part : new int[] {-1, 2, MIN, MAX}) {
            check.due("mean(" + part + ")", x.mean(part), OUTSIDE);
            check.due("mean(" + part + "): outside goes ahead", new UpDrain().mean(part), OUTSIDE);
        }
        check.says(22, "UNKNOWN; OUTSIDE.");
        UpDrain y = Check.townOf("pipe 11 0 0 1 0");
        for (int node : new int[] {-1, 1, 10, 12, 32, MIN, MAX}) {
            check.due("soon(" + node + ", 0)", y.soon(node, 0), UNKNOWN);
            check.due("soon(" + node + ", 2): unknown goes ahead", y.soon(node, 2), UNKNOWN);
        }
        for (int what : new int[] {-1, 2, MIN, MAX}) {
            check.due("soon(11, " + what + ")", y.soon(11, what), OUTSIDE);
        }
    }

    private static void refusedRows() {
        check.says(23, "OUTSIDE: n (1 .. 8); UNKNOWN: a LID; OUTSIDE: what, r: the first of these.");
        UpDrain x = Check.townOf("pipe 11 0 0 1 0;source 11 1 1");
        for (int n : new int[] {0, 9, -1, MIN, MAX, 1 << 28}) {
            check.due("n " + n, x.row(0, n, 0, 0), OUTSIDE);
            check.due("n " + n + " goes ahead of a LID", x.row(1, n, 0, 0), OUTSIDE);
        }
        for (int i = 0; i < 8; i++) {
            for (int lid = 1; lid < 16; lid++) {
                if (lid != 11) {
                    check.due("LID " + lid + " at " + i, x.row(lid << 4 * i, 8, 0, 0), UNKNOWN);
                    check.due("LID " + lid + " at " + i + ", the last", x.row(lid << 4 * i, i + 1, 0, 1), UNKNOWN);
                    check.due("LID " + lid + " at " + i + ", behind the last", i == 0 ? 1 : x.row(lid << 4 * i, i, 0, 0), 1);
                }
            }
        }
        check.due("a LID goes ahead of what", x.row(1, 1, 0, 2), UNKNOWN);
        check.due("a LID goes ahead of r", x.row(1, 1, 1000, 0), UNKNOWN);
        for (int odd : new int[] {-2, 1000, MIN, MAX}) {
            check.due("what " + odd, x.row(0, 1, 0, odd), OUTSIDE);
            check.due("r " + odd, x.row(0, 1, odd, 0), OUTSIDE);
        }
        check.due("what 2", x.row(0, 1, 0, 2), OUTSIDE);
        check.due("what -1", x.row(0, 1, 0, -1), OUTSIDE);
        check.due("r -1", x.row(0, 1, -1, 0), 1);
        check.due("r 0", x.row(0, 1, 0, 0), 1);
        check.due("r 999", x.row(0, 1, 999, 1), 1);
    }

    private static void refusedAnswers() {
        check.says(24, "ANSWERS of a SOURCE to such a ROW, by bits. OUTSIDE: n; UNKNOWN: SOURCE, a LID; OUTSIDE: r.");
        UpDrain x = Check.townOf("pipe 11 5 0 1 0;source 11 1 1");
        for (int n : new int[] {0, 9, -1, MIN, MAX, 1 << 28}) {
            answers(x, 11, 0, n, 0, OUTSIDE);
            answers(x, 5, 1, n, 1000, OUTSIDE);
        }
        for (int source : new int[] {-1, 0, 5, 4, 12, 43, MIN, MAX}) {
            answers(x, source, 0, 1, 0, UNKNOWN);
            answers(x, source, 0, 1, 1000, UNKNOWN);
        }
        answers(x, 11, 1, 1, 0, UNKNOWN);
        answers(x, 11, 1, 1, 1000, UNKNOWN);
        answers(x, 11, 0xc0000000, 8, 0, UNKNOWN);
        answers(x, 11, 0xc0000000, 7, -1, 127);
        for (int r : new int[] {-2, 1000, MIN, MAX}) {
            answers(x, 11, 0, 1, r, OUTSIDE);
        }
        answers(x, 11, 0, 1, -1, 1);
        answers(x, 11, 0, 1, 999, 1);
        answers(x, 11, 0xb5050b00, 8, -1, 255);
    }

    private static void refusedDays() {
        check.says(26, "A DAY: minutes (what 0), GUESSED (1), the SOURCE it was (2), LIDS that were lifted (3). "
            + "UNKNOWN: CUP; OUTSIDE: SEED, what; NOT: there are no SOURCES.");
        UpDrain x = leaves(1, 1, 1);
        UpDrain none = leaves(1, 0);
        for (int cup : new int[] {-1, 4, MIN, MAX}) {
            check.due("cup " + cup, x.day(0, cup, 0), UNKNOWN);
            check.due("unknown goes ahead", x.day(-1, cup, 4), UNKNOWN);
            check.due("unknown goes ahead of not", none.day(0, cup, 0), UNKNOWN);
        }
        for (int what : new int[] {-1, 4, MIN, MAX}) {
            check.due("what " + what, x.day(0, 0, what), OUTSIDE);
            check.due("outside goes ahead of not", none.day(0, 0, what), OUTSIDE);
        }
        check.due("SEED 65536 goes ahead of not", none.day(65536, 0, 0), OUTSIDE);
        for (int what = 0; what < 4; what++) {
            check.due("no SOURCES, what " + what, none.day(0, 0, what), NOT);
            check.due("no SOURCES, what " + what, new UpDrain().day(65535, 3, what), NOT);
        }
        for (int cup = 0; cup < 4; cup++) {
            day(x, 0, cup, 1, 1, 1, 1);
        }
    }
}
