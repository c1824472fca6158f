/** The bounds of what comes, sentence by sentence: promises 10 to 12 and their terms. */
public final class WaterBoundsTest {
    private static final int UNKNOWN = UpDrain.UNKNOWN, OUTSIDE = UpDrain.OUTSIDE;
    private static final int MIN = Integer.MIN_VALUE, MAX = Integer.MAX_VALUE;
    private static final Check check = new Check();

    public static void main(String[] args) {
        itselfAndOnItsWay();
        minutesAhead();
        notAheadOfTheDay();
        onlyInItsHours();
        goneInEachPipe();
        oneFlowsAtLeast();
        rainIsCut();
        theGreatestFlow();
        thinIsCut();
        thinByTheHour();
        oneNodeOrMore();
        timesOfACup();
        withinTheDay();
        whatItTellsOrMore();
        byHowManyTheyAre();
        flowOfAnHour();
        comesLikelyOrNot();
        shouldOrNot();
        check.end("WaterBoundsTest");
    }

    /** 0 - 1 - .. - 11, each pipe with these numbers. */
    private static UpDrain row(int minutes, int gone) {
        UpDrain x = new UpDrain();
        for (int node = 1; node < 12; node++) {
            Check.tell(x, "pipe " + node + " " + (node - 1) + " " + minutes + " 1 " + gone);
        }
        return x;
    }

    private static void comes(UpDrain x, int source, int node, int minute, int due) {
        check.due("comes(" + source + ", " + node + ", " + minute + ", 0)", x.comes(source, node, minute, 0), due);
    }

    private static void thin(UpDrain x, int source, int node, int minute, int due) {
        check.due("comes(" + source + ", " + node + ", " + minute + ", 1)", x.comes(source, node, minute, 1), due);
    }

    private static void should(UpDrain x, int source, int cup, int set, int minute, int n, int due) {
        String call = "should(" + source + ", " + cup + ", " + set + ", " + minute + ", " + n + ")";
        check.due(call, x.should(source, cup, set, minute, n), due);
    }

    // ---- what comes

    private static void itselfAndOnItsWay() {
        check.says(0, "Of a source there COMES to a NODE on its way down (itself, too)");
        UpDrain x = Check.townOf("pipe 1 0 0 1 0;pipe 2 1 0 1 0;pipe 3 1 0 1 0;source 1 1 7;source 0 1 5");
        comes(x, 1, 1, 0, 7);
        comes(x, 1, 0, 0, 7);
        comes(x, 1, 2, 0, 0);
        comes(x, 1, 3, 0, 0);
        comes(x, 0, 0, 0, 5);
        comes(x, 0, 1, 0, 0);
        Check.tell(x, "source 2 1 9");
        comes(x, 2, 3, 0, 0);
        comes(x, 2, 1, 0, 9);
        thin(x, 1, 2, 0, 0);
    }

    private static void minutesAhead() {
        check.says(0, "in a minute (0 .. 1439), what it let in as many minutes ahead as all pipes between take");
        UpDrain x = row(99, 0);
        Check.tell(x, "source 11 1 9999;source 0 1 3");
        for (int node = 0; node < 12; node++) {
            int takes = (11 - node) * 99;
            comes(x, 11, node, takes, 9999);
            comes(x, 11, node, 1439, 9999);
            comes(x, 11, node, Math.max(0, takes - 1), takes == 0 ? 9999 : 0);
        }
        comes(x, 0, 0, 0, 3);
        comes(x, 0, 0, 1439, 3);
        for (int minute : new int[] {-1, 1440, MIN, MAX}) {
            check.due("minute " + minute, x.comes(0, 0, minute, 0), OUTSIDE);
            check.due("minute " + minute, x.comes(0, 0, minute, 1), OUTSIDE);
        }
        // Through pipes of no minutes it is there at once.
        UpDrain y = row(0, 0);
        Check.tell(y, "source 11 1 4");
        comes(y, 11, 0, 0, 4);
    }

    private static void notAheadOfTheDay() {
        check.says(0, "(not ahead of minute 0; only in its HOURS)");
        UpDrain x = Check.townOf("pipe 1 0 90 1 0;source 1 1 7");
        comes(x, 1, 0, 0, 0);
        comes(x, 1, 0, 89, 0);
        comes(x, 1, 0, 90, 7);
        // What is let in late is gone with the day, and does not come early on it.
        Check.tell(x, "gulp 1 23 23");
        for (int minute = 0; minute < 1440; minute += 3) {
            comes(x, 1, 0, minute, 0);
        }
        comes(x, 1, 1, 1439, 7);
    }

    private static void onlyInItsHours() {
        check.says(0, "(not ahead of minute 0; only in its HOURS)");
        for (int takes : new int[] {0, 1, 59, 60, 61, 99}) {
            UpDrain x = Check.townOf("pipe 1 0 " + takes + " 1 0;source 1 1 7");
            window(x, takes, 0, 23);
            Check.tell(x, "gulp 1 0 0");
            window(x, takes, 0, 0);
            Check.tell(x, "gulp 1 9 10");
            window(x, takes, 9, 10);
            Check.tell(x, "gulp 1 22 23");
            window(x, takes, 22, 23);
        }
    }

    /** The minutes about the first and the last of those hours, so much later, within the day. */
    private static void window(UpDrain x, int takes, int from, int to) {
        int first = from * 60 + takes;
        int last = to * 60 + 59 + takes;
        int[] minutes = {first - 1, first, last, last + 1};
        int[] due = {0, 7, 7, 0};
        for (int i = 0; i < minutes.length; i++) {
            if (minutes[i] >= 0 && minutes[i] < 1440) {
                comes(x, 1, 0, minutes[i], due[i]);
            }
        }
    }

    private static void goneInEachPipe() {
        check.says(0, "STRENGTH, behind each pipe less F hundredths of it, cut (what is left: times 100 - F by 100, cut).");
        int[][] cases = {
            {0, 0, 0}, {0, 1, 1}, {0, 9999, 9999}, {1, 1, 0}, {1, 50, 49}, {1, 99, 98}, {1, 100, 99}, {1, 101, 99}, {50, 1, 0},
            {50, 2, 1}, {50, 3, 1}, {99, 99, 0}, {99, 100, 1}, {99, 199, 1}, {99, 200, 2}, {99, 9999, 99}, {98, 49, 0}, {98, 50, 1}};
        for (int[] one : cases) {
            UpDrain x = Check.townOf("pipe 1 0 0 1 " + one[0] + ";source 1 1 " + one[1]);
            comes(x, 1, 0, 0, one[2]);
            comes(x, 1, 1, 0, one[1]);
        }
        // Cut behind each pipe: 199, 99, 49, 24, 12, 6, 3, 1, 0.
        UpDrain y = row(0, 50);
        Check.tell(y, "source 11 1 199;source 8 1 0");
        int[] left = {0, 0, 0, 0, 1, 3, 6, 12, 24, 49, 99, 199};
        for (int node = 0; node < 12; node++) {
            comes(y, 11, node, 0, left[node]);
        }
        comes(y, 8, 0, 0, 0);
        UpDrain z = row(0, 0);
        Check.tell(z, "source 11 1 9999");
        comes(z, 11, 0, 0, 9999);
    }

    // ---- flow and thin

    private static void oneFlowsAtLeast() {
        check.says(0, "all that flows in ABOVE it, times 10 and R by 10, cut; 1 at least.");
        UpDrain x = Check.townOf("pipe 1 0 0 1 0;rain 3 90;rain 4 9;rain 5 10");
        check.due("nothing flows in", x.flow(1, 0), 1);
        check.due("nothing, though it rains", x.flow(1, 3), 1);
        Check.tell(x, "flow 1 1");
        check.due("1", x.flow(1, 0), 1);
        check.due("1.9", x.flow(1, 4), 1);
        check.due("2.0", x.flow(1, 5), 2);
        check.due("10", x.flow(1, 3), 10);
        Check.tell(x, "flow 1 0;flow 0 2");
        check.due("what flows in below does not count", x.flow(1, 3), 1);
        check.due("not 1 more", x.flow(0, 0), 2);
    }

    private static void rainIsCut() {
        check.says(0, "all that flows in ABOVE it, times 10 and R by 10, cut; 1 at least.");
        UpDrain x = Check.townOf("pipe 1 0 0 1 0;pipe 2 0 0 1 0;flow 1 5;flow 2 5;rain 0 1;rain 1 2;rain 23 1");
        check.due("5.5", x.flow(1, 0), 5);
        check.due("6.0", x.flow(1, 1), 6);
        check.due("5.5 in the last hour", x.flow(1, 23), 5);
        // All together is cut, not each by itself.
        check.due("11.0", x.flow(0, 0), 11);
        check.due("10", x.flow(0, 2), 10);
    }

    private static void theGreatestFlow() {
        check.says(0, "all that flows in ABOVE it, times 10 and R by 10, cut; 1 at least.");
        UpDrain x = row(0, 0);
        for (int node = 0; node < 12; node++) {
            Check.tell(x, "flow " + node + " 999");
        }
        Check.tell(x, "rain 23 90");
        for (int node = 0; node < 12; node++) {
            check.due("flow(" + node + ", 22)", x.flow(node, 22), (12 - node) * 999);
            check.due("flow(" + node + ", 23)", x.flow(node, 23), (12 - node) * 9990);
        }
    }

    private static void thinIsCut() {
        check.says(0, "THIN: 1000 times what COMES by the FLOW, cut.");
        UpDrain x = Check.townOf("pipe 1 0 0 1 0;flow 1 999;flow 0 1;source 1 1 1");
        thin(x, 1, 1, 0, 1);
        thin(x, 1, 0, 0, 1);
        Check.tell(x, "flow 0 2");
        thin(x, 1, 0, 0, 0);
        Check.tell(x, "source 1 1 0");
        thin(x, 1, 0, 0, 0);
        Check.tell(x, "source 1 1 9999;flow 1 0;flow 0 0");
        thin(x, 1, 1, 0, 9999000);
        Check.tell(x, "flow 1 1");
        thin(x, 1, 1, 0, 9999000);
        Check.tell(x, "flow 1 2");
        thin(x, 1, 1, 0, 4999500);
        Check.tell(x, "flow 1 7");
        thin(x, 1, 1, 0, 1428428);
    }

    private static void thinByTheHour() {
        check.says(0, "FLOW at a NODE in an HOUR");
        UpDrain x = Check.townOf("flow 0 10;source 0 1 1;rain 0 10;rain 23 90");
        thin(x, 0, 0, 0, 50);
        thin(x, 0, 0, 59, 50);
        thin(x, 0, 0, 60, 100);
        thin(x, 0, 0, 1379, 100);
        thin(x, 0, 0, 1380, 10);
        thin(x, 0, 0, 1439, 10);
    }

    // ---- cups

    private static void oneNodeOrMore() {
        check.says(0, "A CUP is filled at one NODE or more (a set)");
        UpDrain x = row(0, 0);
        Check.tell(x, "source 11 1 1");
        for (int node = 0; node < 12; node++) {
            should(x, 11, 0, 1 << node, 0, 1, 1);
        }
        should(x, 11, 0, 4095, 0, 1, 1);
        for (int set : new int[] {0, 4096, 4097, 8191, -1, -4096, MIN, MIN + 1, MAX}) {
            should(x, 11, 0, set, 0, 1, OUTSIDE);
        }
        UpDrain y = Check.townOf("pipe 11 0 0 1 0;source 11 1 1");
        should(y, 11, 0, 2049, 0, 1, 1);
        for (int node = 1; node < 11; node++) {
            should(y, 11, 0, 1 << node, 0, 1, OUTSIDE);
            should(y, 11, 0, 2049 | 1 << node, 0, 1, OUTSIDE);
        }
    }

    private static void timesOfACup() {
        check.says(0, "in a minute, and each hour later, n times (1 .. 6; within the day)");
        UpDrain x = Check.townOf("source 0 1 1");
        for (int hour = 0; hour < 8; hour++) {
            Check.tell(x, "gulp 0 " + hour + " " + hour);
            for (int n = 1; n <= 6; n++) {
                should(x, 0, 0, 1, 0, n, hour < n ? 1 : 0);
                should(x, 0, 0, 1, 59, n, hour < n ? 1 : 0);
                should(x, 0, 0, 1, 60, n, hour >= 1 && hour <= n ? 1 : 0);
            }
        }
        for (int n : new int[] {0, 7, -1, MIN, MAX, 1 << 26, 71582789}) {
            should(x, 0, 0, 1, 0, n, OUTSIDE);
        }
        // In these minutes alone, not between them.
        UpDrain y = Check.townOf("pipe 1 0 1 1 0;source 1 1 1;gulp 1 2 2");
        should(y, 1, 0, 1, 0, 6, 1);
        should(y, 1, 0, 1, 120, 1, 0);
        should(y, 1, 0, 1, 120, 2, 1);
        should(y, 1, 0, 1, 121, 1, 1);
        should(y, 1, 0, 1, 180, 1, 1);
        should(y, 1, 0, 1, 181, 6, 0);
    }

    private static void withinTheDay() {
        check.says(12, "OUTSIDE: set (NODES that are there, one at least), minute, n (also beyond the day).");
        UpDrain x = Check.townOf("source 0 1 1");
        for (int n = 1; n <= 6; n++) {
            int last = 1439 - 60 * (n - 1);
            should(x, 0, 0, 1, last, n, 1);
            should(x, 0, 0, 1, last + 1, n, OUTSIDE);
            should(x, 0, 0, 1, 0, n, 1);
            should(x, 0, 0, 1, -1, n, OUTSIDE);
            should(x, 0, 0, 1, 1440, n, OUTSIDE);
            should(x, 0, 0, 1, MAX, n, OUTSIDE);
            should(x, 0, 0, 1, MIN, n, OUTSIDE);
        }
        // The last minute of the day is filled too.
        Check.tell(x, "pipe 1 0 99 1 0;source 1 1 1;gulp 1 22 22");
        should(x, 1, 0, 1, 1139, 6, 1);
        Check.tell(x, "pipe 1 0 0 1 0;gulp 1 23 23");
        should(x, 1, 0, 1, 1139, 6, 1);
        should(x, 1, 0, 1, 1139, 5, 0);
    }

    private static void whatItTellsOrMore() {
        check.says(0, "it SHOULD say yes, if in one of these minutes the THINS of these NODES together, by how many they are, cut, "
            + "are what it tells, or more.");
        UpDrain x = Check.townOf("source 0 1 1;flow 0 100;cup 0 9 0 0;cup 1 10 0 0;cup 2 11 0 0;cup 3 9999 0 0");
        should(x, 0, 0, 1, 0, 1, 1);
        should(x, 0, 1, 1, 0, 1, 1);
        should(x, 0, 2, 1, 0, 1, 0);
        should(x, 0, 2, 1, 0, 6, 0);
        Check.tell(x, "source 0 1 999;flow 0 100");
        should(x, 0, 3, 1, 0, 1, 0);
        Check.tell(x, "source 0 1 1000");
        should(x, 0, 3, 1, 0, 1, 1);
        // The least that a cup can tell is 1: nothing is never told.
        Check.tell(x, "cup 0 1 0 0;source 0 1 0");
        should(x, 0, 0, 1, 0, 6, 0);
        Check.tell(x, "flow 0 999;pipe 1 0 0 1 0;flow 1 2;source 0 1 1");
        should(x, 0, 0, 1, 0, 1, 0);
        Check.tell(x, "flow 1 1");
        should(x, 0, 0, 1, 0, 1, 1);
        // Whether a cup errs does not matter.
        Check.tell(x, "cup 0 1 9 9");
        should(x, 0, 0, 1, 0, 1, 1);
        should(x, 0, 0, 2, 0, 1, 0);
    }

    private static void byHowManyTheyAre() {
        check.says(0, "the THINS of these NODES together, by how many they are, cut");
        // At node 11 THIN is 1000 x 12, elsewhere 0: by k nodes 12000 / k.
        UpDrain x = new UpDrain();
        for (int node = 1; node < 12; node++) {
            Check.tell(x, "pipe " + node + " 0 99 1 0");
        }
        Check.tell(x, "source 11 1 12");
        int set = 1 << 11;
        for (int many = 1; many <= 12; many++) {
            int due = 12000 / many;
            Check.tell(x, "cup 0 " + Math.min(9999, due) + " 0 0;cup 1 " + Math.min(9999, due + 1) + " 0 0");
            should(x, 11, 0, set, 0, 1, 1);
            should(x, 11, 1, set, 0, 1, due > 9999 ? 1 : 0);
            set |= 1 << 11 - many % 12;
        }
        check.due("all nodes at last", set, 4095);
        // Each THIN is cut, and then what they are together: 333 and 500 are 833, by two 416.
        UpDrain y = Check.townOf("pipe 1 0 0 1 0;flow 1 2;flow 0 1;source 1 1 1;cup 0 416 0 0;cup 1 417 0 0");
        thin(y, 1, 1, 0, 500);
        thin(y, 1, 0, 0, 333);
        should(y, 1, 0, 3, 0, 1, 1);
        should(y, 1, 1, 3, 0, 1, 0);
        // The greatest sum: twelve times 9,999,000.
        UpDrain z = row(0, 0);
        Check.tell(z, "source 11 1 9999;cup 0 9999 0 0");
        should(z, 11, 0, 4095, 0, 6, 1);
    }

    // ---- the calls

    private static void flowOfAnHour() {
        check.says(10, "FLOW. UNKNOWN; OUTSIDE: HOUR.");
        UpDrain x = Check.townOf("flow 0 10;rain 0 1;rain 23 2");
        check.due("flow(0, 0)", x.flow(0, 0), 11);
        check.due("flow(0, 1)", x.flow(0, 1), 10);
        check.due("flow(0, 22)", x.flow(0, 22), 10);
        check.due("flow(0, 23)", x.flow(0, 23), 12);
        for (int hour : new int[] {-1, 24, MIN, MAX}) {
            check.due("flow(0, " + hour + ")", x.flow(0, hour), OUTSIDE);
            check.due("flow(1, " + hour + "): unknown goes ahead", x.flow(1, hour), UNKNOWN);
        }
        check.due("flow(11, 0)", x.flow(11, 0), UNKNOWN);
    }

    private static void comesLikelyOrNot() {
        check.says(11, "What COMES of the source at a NODE (by what is told of it, LIKELY or not) to a NODE (what 0), its THIN (1).");
        UpDrain x = Check.townOf("pipe 1 0 0 1 0;source 1 0 8;flow 0 4");
        comes(x, 1, 0, 0, 8);
        thin(x, 1, 0, 0, 2000);
        check.due("it is no SOURCE", x.count(2), 0);
        Check.tell(x, "source 1 99 8");
        comes(x, 1, 0, 0, 8);
        // Of which nothing was told, nothing comes.
        comes(x, 0, 0, 0, 0);
        thin(x, 0, 0, 0, 0);
        check.says(11, "UNKNOWN; OUTSIDE.");
        for (int what : new int[] {-1, 2, MIN, MAX}) {
            check.due("what " + what, x.comes(1, 0, 0, what), OUTSIDE);
            check.due("unknown goes ahead", x.comes(2, 0, 0, what), UNKNOWN);
            check.due("unknown goes ahead", x.comes(1, 2, -1, what), UNKNOWN);
        }
        check.due("unknown, though it would not come there", x.comes(0, 11, 0, 0), UNKNOWN);
        check.due("unknown source", x.comes(11, 0, 1440, 0), UNKNOWN);
    }

    private static void shouldOrNot() {
        check.says(12, "Whether a CUP SHOULD say yes by the source at a NODE: 1, 0. UNKNOWN: source, CUP;");
        UpDrain x = Check.townOf("pipe 1 0 0 1 0;source 1 0 8");
        should(x, 1, 0, 1, 0, 1, 1);
        should(x, 1, 3, 2, 0, 1, 1);
        should(x, 0, 0, 1, 0, 1, 0);
        should(x, 0, 0, 3, 0, 6, 0);
        for (int source : new int[] {-1, 2, 11, 12, 32, MIN, MAX}) {
            should(x, source, 0, 1, 0, 1, UNKNOWN);
            should(x, source, 0, 0, -1, 0, UNKNOWN);
        }
        for (int cup : new int[] {-1, 4, MIN, MAX}) {
            should(x, 1, cup, 1, 0, 1, UNKNOWN);
            should(x, 1, cup, 0, -1, 0, UNKNOWN);
        }
    }
}
