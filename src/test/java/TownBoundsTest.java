/** The bounds of the town, sentence by sentence: promises 1, 6 to 9 and 27, and their terms. */
public final class TownBoundsTest {
    private static final int NONE = UpDrain.NONE, UNKNOWN = UpDrain.UNKNOWN, OUTSIDE = UpDrain.OUTSIDE;
    private static final int MIN = Integer.MIN_VALUE, MAX = Integer.MAX_VALUE;
    private static final Check check = new Check();

    public static void main(String[] args) {
        theOutfallAlone();
        twelveNodes();
        bothEndsOfAPipe();
        pipesToldAgain();
        flowToldAgain();
        rainOfEachHour();
        likelyAboveNothing();
        inAllHours();
        gulpsOfOneHour();
        fourCups();
        whatIsKept();
        aboveItself();
        walks();
        ofANode();
        ofACup();
        aboveByBits();
        walkOfOneNode();
        counts();
        fiveHundredAndTwelveCalls();
        check.end("TownBoundsTest");
    }

    private static void theOutfallAlone() {
        check.says(1, "The OUTFALL alone.");
        UpDrain x = new UpDrain();
        check.due("count(0)", x.count(0), 1);
        for (int what = 1; what < 7; what++) {
            check.due("count(" + what + ")", x.count(what), 0);
        }
        check.due("above(0)", x.above(0), 1);
        for (int node = 1; node < 12; node++) {
            check.due("above(" + node + ")", x.above(node), UNKNOWN);
        }
        check.due("walk(0, 0)", x.walk(0, 0), 0);
        check.due("walk(0, 1)", x.walk(0, 1), UNKNOWN);
        check.due("fault()", x.fault(), 0);
        check.due("town()", x.town(), UpDrain.NOT);
        check.due("erase()", x.erase(), 0);
        check.due("forget()", x.forget(), 0);
        check.due("flow(0, 0)", x.flow(0, 0), 1);
        check.due("flow(0, 23)", x.flow(0, 23), 1);
        check.due("comes(0, 0, 0, 0)", x.comes(0, 0, 0, 0), 0);
        check.due("comes(0, 0, 1439, 1)", x.comes(0, 0, 1439, 1), 0);
        check.due("should(0, 0, 1, 0, 1)", x.should(0, 0, 1, 0, 1), 0);
        check.due("likeliest()", x.likeliest(), NONE);
        check.due("lacks(0)", x.lacks(0), 1);
        check.due("hang(0)", x.hang(0), 0);
        check.due("row(0, 8, -1, 0)", x.row(0, 8, -1, 0), 0);
        check.due("row(0, 8, -1, 1)", x.row(0, 8, -1, 1), 0);
        check.due("answers(0, 0, 1, -1)", x.answers(0, 0, 1, -1), UNKNOWN);
        // What one object is told no other one knows.
        Check.tell(x, "pipe 1 0 0 1 0;lift 5;none 5;flow 0 5;cup 0 5 5 5;rain 0 5;source 0 5 5");
        x.found(0, 1, 0, 1, true);
        Check.write(x, "abc");
        check.alike("another object's calls", new UpDrain(), new UpDrain());
        check.due("count(0) of another", new UpDrain().count(0), 1);
    }

    private static void twelveNodes() {
        check.says(0, "11; 0 is the OUTFALL, and there.");
        UpDrain x = Check.widest();
        check.due("count(0)", x.count(0), 12);
        check.due("above(0)", x.above(0), 4095);
        for (int node = 0; node < 12; node++) {
            check.due("of(" + node + ", 0)", x.of(node, 0), node == 0 ? NONE : 0);
        }
        for (int node : new int[] {-1, 12, 15, 16, 31, 32, 44, -32, 4095, MIN, MIN + 1, MAX}) {
            check.due("of(" + node + ", 0)", x.of(node, 0), UNKNOWN);
            check.due("above(" + node + ")", x.above(node), UNKNOWN);
            check.due("walk(0, " + node + ")", x.walk(0, node), UNKNOWN);
            check.due("walk(" + node + ", 0)", x.walk(node, 0), UNKNOWN);
            check.due("flow(" + node + ", 0)", x.flow(node, 0), UNKNOWN);
            check.due("soon(" + node + ", 0)", x.soon(node, 0), UNKNOWN);
        }
        // Nothing that is told takes the OUTFALL away, or a NODE that is there.
        Check.tell(x, "source 0 0 0;flow 0 0;source 5 0 0;flow 5 0;pipe 5 4 0 1 0");
        check.due("count(0)", x.count(0), 12);
    }

    private static void bothEndsOfAPipe() {
        check.says(0, "both are there then (a U that was not goes to NODE 0: 0 minutes, 1 to walk, nothing gone).");
        for (int v = 2; v < 12; v++) {
            for (int u = 1; u < v; u++) {
                UpDrain x = Check.townOf("pipe " + v + " " + u + " 99 60 98");
                pipe(x, v, u, 99, 60, 98);
                pipe(x, u, 0, 0, 1, 0);
                check.due("count(0)", x.count(0), 3);
            }
        }
        UpDrain x = Check.townOf("pipe 1 0 7 8 9");
        check.due("U is the OUTFALL: it has no pipe", x.of(0, 0), NONE);
        check.due("nor minutes", x.of(0, 1) + x.of(0, 2) + x.of(0, 3), 0);
        check.due("count(0)", x.count(0), 2);
        // One that was there keeps its pipe.
        Check.tell(x, "pipe 2 1 1 1 1");
        pipe(x, 1, 0, 7, 8, 9);
        // Also one that came to be there as another's U.
        Check.tell(x, "pipe 9 5 1 1 1;pipe 5 4 2 2 2;pipe 10 5 3 3 3");
        pipe(x, 5, 4, 2, 2, 2);
        pipe(x, 4, 0, 0, 1, 0);
    }

    private static void pipesToldAgain() {
        check.says(0, "A NODE of which a pipe was told ahead goes that way now.");
        UpDrain x = Check.townOf("pipe 1 0 1 1 1;pipe 2 1 2 2 2;pipe 3 2 3 3 3", "pipe 3 1 99 60 99");
        pipe(x, 3, 1, 99, 60, 99);
        check.due("above(2)", x.above(2), 4);
        check.due("above(1)", x.above(1), 14);
        check.due("walk(3, 2)", x.walk(3, 2), 62);
        check.due("count(6)", x.count(6), 63);
        // Those above go with it; the same way may be told once more.
        Check.tell(x, "pipe 2 0 0 5 0;pipe 3 2 0 7 0;pipe 2 0 0 5 0");
        check.due("walk(3, 1)", x.walk(3, 1), 13);
        check.due("above(1)", x.above(1), 2);
        check.due("count(0)", x.count(0), 4);
    }

    private static void pipe(UpDrain x, int node, int down, int minutes, int walk, int gone) {
        int[] due = {down, minutes, walk, gone};
        for (int what = 0; what < due.length; what++) {
            check.due("of(" + node + ", " + what + ")", x.of(node, what), due[what]);
        }
    }

    private static void flowToldAgain() {
        check.says(0, "N (0 .. 999; 0 at first) flows in at NODE V.");
        UpDrain x = Check.townOf("pipe 11 0 0 1 0;flow 11 999;flow 0 999");
        check.due("of(11, 4)", x.of(11, 4), 999);
        check.due("flow(0, 0)", x.flow(0, 0), 1998);
        Check.tell(x, "flow 11 1");
        check.due("told again, not added", x.of(11, 4), 1);
        Check.tell(x, "flow 11 0;flow 0 0");
        check.due("0 again", x.flow(0, 0), 1);
    }

    private static void rainOfEachHour() {
        check.says(0, "in HOUR H (0 .. 23) all flow is R tenths more (0 .. 90; 0 at first).");
        for (int told = 0; told < 24; told++) {
            UpDrain x = Check.townOf("pipe 1 0 0 1 0;flow 1 10;rain " + told + " 90");
            for (int hour = 0; hour < 24; hour++) {
                check.due("flow(1, " + hour + ") by rain in " + told, x.flow(1, hour), hour == told ? 100 : 10);
            }
        }
        UpDrain y = Check.townOf("flow 0 10;rain 5 90", "rain 5 1");
        check.due("told again, not added", y.flow(0, 5), 11);
        Check.tell(y, "rain 5 0");
        check.due("no more", y.flow(0, 5), 10);
    }

    private static void likelyAboveNothing() {
        check.says(0, "SOURCES are NODES that are there with LIKELY above 0.");
        UpDrain x = Check.townOf("pipe 2 0 0 1 0;source 2 0 9999");
        check.due("LIKELY 0", x.count(2), 0);
        check.due("no SOURCE", x.chance(2, 0), UNKNOWN);
        check.due("no ANSWERS", x.answers(2, 0, 1, -1), UNKNOWN);
        Check.tell(x, "source 2 1 0");
        check.due("LIKELY 1, no STRENGTH", x.count(2), 1);
        check.due("a SOURCE", x.chance(2, 0), 1);
        check.due("its ANSWERS", x.answers(2, 0, 1, -1), 1);
        Check.tell(x, "source 1 99 99;source 11 99 99");
        check.due("of those that are not there none", x.count(2), 1);
        check.due("1 is not there", x.chance(1, 0), UNKNOWN);
        Check.tell(x, "pipe 11 1 0 1 0");
        check.due("now they are", x.count(2), 3);
        Check.tell(x, "source 2 0 0;source 1 0 0;source 11 0 0");
        check.due("LIKELY 0 again", x.count(2), 0);
        check.due("twelve", Check.widest().count(2), 12);
    }

    private static void inAllHours() {
        check.says(0, "STRENGTH S (0 .. 9999; 0 at first), in all HOURS.");
        UpDrain x = new UpDrain();
        hours(x, 0, 0, 23);
        Check.tell(x, "source 0 1 9");
        hours(x, 0, 0, 23);
        Check.tell(x, "gulp 0 23 23");
        hours(x, 0, 23, 23);
        Check.tell(x, "source 0 1 9");
        hours(x, 0, 0, 23);
        check.due("let in in the first minute", x.comes(0, 0, 0, 0), 9);
        check.due("let in in the last minute", x.comes(0, 0, 1439, 0), 9);
    }

    private static void gulpsOfOneHour() {
        check.says(0, "one at V lets in from HOUR I to J alone (J 23 at most, not below I).");
        UpDrain x = Check.townOf("source 0 1 9");
        for (int from = 0; from < 24; from++) {
            Check.tell(x, "gulp 0 " + from + " " + from);
            hours(x, 0, from, from);
            check.due("its first minute, " + from, x.comes(0, 0, from * 60, 0), 9);
            check.due("its last minute, " + from, x.comes(0, 0, from * 60 + 59, 0), 9);
            check.due("the minute ahead, " + from, from == 0 ? 0 : x.comes(0, 0, from * 60 - 1, 0), 0);
            check.due("the minute behind, " + from, from == 23 ? 0 : x.comes(0, 0, from * 60 + 60, 0), 0);
        }
        Check.tell(x, "gulp 0 0 23");
        hours(x, 0, 0, 23);
        check.due("LIKELY is not touched", x.of(0, 5), 1);
        check.due("nor is STRENGTH", x.of(0, 6), 9);
    }

    private static void hours(UpDrain x, int node, int from, int to) {
        check.due("of(" + node + ", 7)", x.of(node, 7), from);
        check.due("of(" + node + ", 8)", x.of(node, 8), to);
    }

    private static void fourCups() {
        check.says(0, "A, B tenths are WRONG (0 .. 9; 0 at first): A: it says yes and should not, B: it says no and should not.");
        // The source lets nothing into the other leaf: a cup there should say no.
        UpDrain x = Check.townOf("pipe 1 0 0 1 0;pipe 2 0 0 1 0;source 1 1 1;cup 0 1 0 0;cup 1 1 9 0;cup 2 1 0 9;cup 3 1 9 9");
        int[] yesIfYes = {10, 10, 1, 1};
        int[] yesIfNo = {0, 9, 0, 9};
        for (int cup = 0; cup < 4; cup++) {
            int below = 10 / gcd(yesIfYes[cup], 10);
            check.due("should say yes, cup " + cup, x.worth(cup, 2, 0, 1, 0), yesIfYes[cup] * below / 10);
            check.due("should say yes, cup " + cup, x.worth(cup, 2, 0, 1, 1), below);
            below = 10 / gcd(yesIfNo[cup], 10);
            check.due("should say no, cup " + cup, x.worth(cup, 4, 0, 1, 0), yesIfNo[cup] * below / 10);
            check.due("should say no, cup " + cup, x.worth(cup, 4, 0, 1, 1), below);
        }
    }

    private static int gcd(int a, int b) {
        return a == 0 ? b : gcd(b % a, a);
    }

    private static void whatIsKept() {
        check.says(0, "What is told of flow, sources, gulps for NODES that are not there is kept.");
        for (int node = 1; node < 12; node++) {
            UpDrain x = Check.townOf("flow " + node + " 999;source " + node + " 99 9999;gulp " + node + " 22 23");
            check.due("not there", x.of(node, 4), UNKNOWN);
            check.due("nothing of it flows", x.flow(0, 0), 1);
            check.due("nothing of it comes", x.comes(node, 0, 1400, 0), UNKNOWN);
            check.due("not counted", x.count(0) * 10 + x.count(2), 10);
            Check.tell(x, "pipe " + node + " 0 0 1 0");
            int[] due = {0, 0, 1, 0, 999, 99, 9999, 22, 23};
            for (int what = 0; what < due.length; what++) {
                check.due("of(" + node + ", " + what + ")", x.of(node, what), due[what]);
            }
            check.due("it flows", x.flow(0, 0), 999);
            check.due("it comes", x.comes(node, 0, 1320, 0), 9999);
        }
        // Also where it comes to be there as another's U, and over what was told ahead of that.
        UpDrain y = Check.townOf("flow 3 5;flow 3 6", "source 3 7 8", "pipe 11 3 0 1 0");
        check.due("the last flow", y.of(3, 4), 6);
        check.due("LIKELY", y.of(3, 5), 7);
    }

    private static void aboveItself() {
        check.says(0, "ABOVE a NODE are itself and those whose way down leads through it (of those that are there).");
        UpDrain x = Check.longest();
        for (int node = 0; node < 12; node++) {
            check.due("above(" + node + ") in a row", x.above(node), 4095 >> node << node);
        }
        UpDrain y = Check.widest();
        for (int node = 1; node < 12; node++) {
            check.due("above(" + node + ") of leaves", y.above(node), 1 << node);
        }
        UpDrain z = Check.townOf("pipe 11 0 0 1 0;source 5 1 1;flow 5 5");
        check.due("those that are there alone", z.above(0), 2049);
    }

    private static void walks() {
        check.says(0, "WALK of two NODES: minutes to walk on the way between (down and up).");
        UpDrain x = Check.townOf("pipe 11 0 0 60 0;pipe 10 9 0 60 0;pipe 9 8 0 60 0;pipe 8 7 0 60 0", "pipe 7 6 0 60 0;pipe 6 5 0 60 0",
            "pipe 5 4 0 60 0;pipe 4 3 0 60 0;pipe 3 2 0 60 0;pipe 2 1 0 60 0;pipe 1 0 0 60 0");
        check.due("the longest", x.walk(10, 11), 660);
        check.due("and back", x.walk(11, 10), 660);
        check.due("to itself", x.walk(11, 11), 0);
        check.due("one pipe up", x.walk(9, 10), 60);
        check.due("one pipe down", x.walk(10, 9), 60);
        check.due("up alone", x.walk(0, 10), 600);
        check.due("down alone", x.walk(10, 0), 600);
        // Not by the OUTFALL, where two ways meet ahead of it.
        Check.tell(x, "pipe 11 9 0 1 0");
        check.due("where they meet", x.walk(10, 11), 61);
        check.due("the least walk", Check.townOf("pipe 1 0 0 1 0").walk(0, 1), 1);
    }

    private static void ofANode() {
        check.says(6, "Of a NODE: where its pipe goes (what 0; NONE: the OUTFALL), its minutes (1), to walk (2), "
            + "what is gone (3; 0 each of the OUTFALL), flow (4), LIKELY (5), STRENGTH (6), HOURS (7, 8).");
        UpDrain x = Check.townOf("pipe 11 10 99 60 98;flow 11 999;source 11 97 9999;gulp 11 22 23",
            "flow 0 5;source 0 6 7;gulp 0 8 9");
        int[] ofLast = {10, 99, 60, 98, 999, 97, 9999, 22, 23};
        int[] ofOutfall = {NONE, 0, 0, 0, 5, 6, 7, 8, 9};
        int[] ofBetween = {0, 0, 1, 0, 0, 0, 0, 0, 23};
        for (int what = 0; what < 9; what++) {
            check.due("of(11, " + what + ")", x.of(11, what), ofLast[what]);
            check.due("of(0, " + what + ")", x.of(0, what), ofOutfall[what]);
            check.due("of(10, " + what + ")", x.of(10, what), ofBetween[what]);
        }
        for (int what : new int[] {-1, 9, MIN, MAX}) {
            check.due("of(11, " + what + ")", x.of(11, what), OUTSIDE);
            check.due("of(9, " + what + "): unknown goes ahead", x.of(9, what), UNKNOWN);
        }
    }

    private static void ofACup() {
        check.says(7, "Of a CUP: what it tells (what 0), WRONG (1, 2). UNKNOWN; OUTSIDE.");
        UpDrain x = Check.townOf("cup 0 1 2 3;cup 3 9999 9 8");
        int[] first = {1, 2, 3};
        int[] last = {9999, 9, 8};
        for (int what = 0; what < 3; what++) {
            check.due("cup(0, " + what + ")", x.cup(0, what), first[what]);
            check.due("cup(3, " + what + ")", x.cup(3, what), last[what]);
            check.due("cup(4, " + what + ")", x.cup(4, what), UNKNOWN);
            check.due("cup(-1, " + what + ")", x.cup(-1, what), UNKNOWN);
        }
        check.due("cup(3, 3)", x.cup(3, 3), OUTSIDE);
        check.due("cup(0, -1)", x.cup(0, -1), OUTSIDE);
        check.due("cup(4, 3): unknown goes ahead", x.cup(4, 3), UNKNOWN);
    }

    private static void aboveByBits() {
        check.says(8, "ABOVE a NODE, by bits. UNKNOWN.");
        UpDrain x = Check.townOf("pipe 11 0 0 1 0");
        check.due("the first and the last bit", x.above(0), 1 | 1 << 11);
        check.due("the last bit", x.above(11), 1 << 11);
        check.due("above(10)", x.above(10), UNKNOWN);
        check.due("above(12)", x.above(12), UNKNOWN);
        check.due("above(-1)", x.above(-1), UNKNOWN);
    }

    private static void walkOfOneNode() {
        check.says(9, "WALK. UNKNOWN.");
        UpDrain x = Check.townOf("pipe 11 0 0 60 0");
        check.due("walk(11, 0)", x.walk(11, 0), 60);
        check.due("walk(10, 10): also of one that is not there", x.walk(10, 10), UNKNOWN);
        check.due("walk(12, 12)", x.walk(12, 12), UNKNOWN);
        check.due("walk(-1, -1)", x.walk(-1, -1), UNKNOWN);
        check.due("walk(11, 10)", x.walk(11, 10), UNKNOWN);
        check.due("walk(10, 11)", x.walk(10, 11), UNKNOWN);
    }

    private static void counts() {
        check.says(27, "0 NODES that are there, 1 bytes of THE TEXT, 2 SOURCES, 3 FOUND, 4 minutes for a LID, 5 LIKELY of none, "
            + "6 all that is WALKED along pipes. OUTSIDE.");
        UpDrain x = Check.widest();
        Check.tell(x, "lift 60;none 99;pipe 1 0 0 60 0;pipe 2 1 0 60 0;pipe 3 2 0 60 0;pipe 4 3 0 60 0;pipe 5 4 0 60 0");
        Check.tell(x, "pipe 6 5 0 60 0;pipe 7 6 0 60 0;pipe 8 7 0 60 0;pipe 9 8 0 60 0;pipe 10 9 0 60 0;pipe 11 10 0 60 0");
        for (int i = 0; i < 10; i++) {
            x.found(0, 1, 0, 1, true);
        }
        Check.write(x, " ".repeat(200));
        int[] full = {12, 200, 12, 10, 60, 99, 660};
        int[] none = {1, 0, 0, 0, 0, 0, 0};
        for (int what = 0; what < 7; what++) {
            check.due("full: count(" + what + ")", x.count(what), full[what]);
            check.due("empty: count(" + what + ")", new UpDrain().count(what), none[what]);
        }
        for (int what : new int[] {-1, 7, MIN, MAX}) {
            check.due("count(" + what + ")", x.count(what), OUTSIDE);
        }
        // A pipe that is told again is not walked twice.
        check.due("count(6)", Check.townOf("pipe 2 1 0 7 0;pipe 2 1 0 7 0").count(6), 8);
    }

    private static void fiveHundredAndTwelveCalls() {
        check.says(0, "An object is used for at most 512 calls after it has been made");
        UpDrain x = new UpDrain();
        long lift = 'l' | 'i' << 8 | 'f' << 16 | (long) 't' << 24 | (long) '1' << 32;
        for (int i = 0; i < 127; i++) {
            check.due("call " + (4 * i + 1), x.write(lift + ((long) (i % 9) << 32), 5), 5);
            check.due("call " + (4 * i + 2), x.fault(), NONE);
            check.due("call " + (4 * i + 3), x.town(), 1);
            check.due("call " + (4 * i + 4), x.count(4), 1 + i % 9);
        }
        check.due("call 509", x.found(0, 1, 0, 1, true), 1);
        check.due("call 510", x.write(lift, 8), 8);
        check.due("call 511", x.erase(), 8);
        check.due("call 512", x.forget(), 1);
    }
}
