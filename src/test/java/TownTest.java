/** Promises 1 to 9 and 27: a new object, the text, the town, count. */
public final class TownTest {
    private static final int NONE = UpDrain.NONE, UNKNOWN = UpDrain.UNKNOWN, OUTSIDE = UpDrain.OUTSIDE;
    private static final int NOT = UpDrain.NOT, FULL = UpDrain.FULL;
    private static final Check check = new Check();

    public static void main(String[] args) {
        aNewObject();
        writing();
        erasing();
        goodTexts();
        faultsOfWords();
        faultsOfNumbers();
        faultsOfLines();
        boundsOfNumbers();
        tellingTheTown();
        pipesAreToldAgain();
        whatIsToldAheadIsKept();
        sourcesAndGulps();
        linesTellOneThing();
        ofANode();
        ofACup();
        aboveANode();
        walking();
        counting();
        check.end("TownTest");
    }

    private static void aNewObject() {
        UpDrain x = new UpDrain();
        int[] ofOutfall = {NONE, 0, 0, 0, 0, 0, 0, 0, 23};
        for (int what = 0; what < ofOutfall.length; what++) {
            check.due("new: of(0, " + what + ")", x.of(0, what), ofOutfall[what]);
        }
        for (int node = 1; node < 12; node++) {
            check.due("new: of(" + node + ", 0)", x.of(node, 0), UNKNOWN);
        }
        for (int cup = 0; cup < 4; cup++) {
            check.due("new: cup(" + cup + ", 0)", x.cup(cup, 0), 1);
            check.due("new: cup(" + cup + ", 1)", x.cup(cup, 1), 0);
            check.due("new: cup(" + cup + ", 2)", x.cup(cup, 2), 0);
        }
        int[] counts = {1, 0, 0, 0, 0, 0, 0};
        for (int what = 0; what < counts.length; what++) {
            check.due("new: count(" + what + ")", x.count(what), counts[what]);
        }
        check.due("new: two objects", Check.townOf("pipe 1 0 0 1 0").count(0) + new UpDrain().count(0), 3);
    }

    private static void writing() {
        UpDrain x = new UpDrain();
        check.due("write(0, 0)", x.write(0, 0), OUTSIDE);
        check.due("write(0, -1)", x.write(0, -1), OUTSIDE);
        check.due("write(0, 9)", x.write(0, 9), OUTSIDE);
        check.due("count(1) after refused", x.count(1), 0);
        // The least byte stands first, and bytes beyond n are not looked at.
        long lift7 = 'l' | 'i' << 8 | 'f' << 16 | (long) 't' << 24 | (long) '7' << 32;
        check.due("write lift7 and more", x.write(lift7 | -1L << 40, 5), 5);
        check.due("town of lift7", x.town(), 1);
        check.due("lift is 7", x.count(4), 7);
        for (int i = 1; i <= 24; i++) {
            check.due("write 8 blanks, " + i, x.write(0x2020202020202020L, 8), 8 * i);
        }
        check.due("write 7 of 8", x.write(0x2020202020202020L, 7), 199);
        check.due("write 2 at 199", x.write(0x2020, 2), FULL);
        check.due("still 199", x.count(1), 199);
        check.due("write 1 at 199", x.write(0x20, 1), 200);
        check.due("write 1 at 200", x.write(0x20, 1), FULL);
        check.due("write 9 at 200", x.write(0x20, 9), OUTSIDE);
        check.due("a text of blanks ends too soon", x.fault(), 200);
        UpDrain y = new UpDrain();
        check.due("a byte above 127", y.write(-1, 8), 8);
        check.due("is a token of its own", y.fault(), 0);
    }

    private static void erasing() {
        UpDrain x = new UpDrain();
        check.due("erase nothing", x.erase(), 0);
        Check.write(x, "lift 5");
        check.due("erase", x.erase(), 6);
        check.due("erase again", x.erase(), 0);
        check.due("count(1) behind erase", x.count(1), 0);
        check.due("town behind erase", x.town(), NOT);
        Check.write(x, "none 5");
        check.due("text behind erase", x.town(), 1);
        check.due("the erased line was not done", x.count(4), 0);
        check.due("the new line was done", x.count(5), 5);
    }

    private static void goodTexts() {
        String[] good = {
            "pipe 1 0 0 1 0", "pipe 11 10 99 60 99", "flow 0 0", "flow 11 999", "source 0 0 0", "source 11 99 9999",
            "gulp 0 0 0", "gulp 11 23 23", "gulp 5 3 3", "rain 0 0", "rain 23 90", "cup 0 1 0 0", "cup 3 9999 9 9",
            "lift 0", "lift 60", "none 0", "none 99", "  lift  5  ", "lift5", "pipe1 0 0 1 0", "lift 0005",
            "lift 5;none 5", "lift 5 ; none 5", "lift5;none5 ", "flow 0011 0999",
            "lift 1;lift 1;lift 1;lift 1;lift 1;lift 1;lift 1;lift 1;lift 1"};
        for (String text : good) {
            check.due("fault of '" + text + "'", Check.faultOf(text), NONE);
        }
    }

    private static void faultsOfWords() {
        check.due("fault of nothing", Check.faultOf(""), 0);
        check.due("fault of a blank", Check.faultOf(" "), 1);
        faults("Lift 5", 0);
        faults("lifts 5", 0);
        faults("lif 5", 0);
        faults("xift 5", 0);
        faults("lifx 5", 0);
        faults("liftz 5", 0);
        faults("lifta 5", 0);
        faults("a lift 5", 0);
        faults("li ft 5", 0);
        faults("liFt 5", 0);
        faults("  lyft 5", 2);
        faults("5 lift", 0);
        faults("; lift 5", 0);
        faults("pipeflow 3 3", 0);
        faults("\tlift 5", 0);
        faults("lift\t5", 4);
        faults("lift -5", 5);
        faults("lift five", 5);
        faults("lift 5.", 6);
        faults("lift 5\0", 6);
        faults("lift 5x", 6);
        faults("lift 5 5", 7);
        faults("lift 5 none 5", 7);
        faults("lift 5 ,none 5", 7);
        faults("lift ;", 5);
        faults("lift \u00ff", 5);
    }

    private static void faultsOfNumbers() {
        faults("pipe 3 1 100 4 50", 9);
        faults("gulp 1 5 4", 9);
        faults("gulp 1 0023 22", 12);
        faults("pipe 5 5 1 1 1", 7);
        faults("pipe 5 0006 1 1 1", 7);
        faults("lift 00005", 5);
        faults("lift 99999999999999999999", 5);
        faults("lift 4294967297", 5);
        faults("source 1 1 10000", 11);
        faults("lift 12 34", 8);
    }

    private static void faultsOfLines() {
        faults("lift", 4);
        faults("lift  ", 6);
        faults("pipe 1 0 0 1", 12);
        faults("lift 5;", 7);
        faults("lift 5; ", 8);
        faults("lift 5;;none 5", 7);
        faults("lift 5 ; ; none 5", 9);
        faults("lift 5;bad;lift 61", 7);
        faults("lift 5;lift 61;bad", 12);
        faults("lift1;lift1;lift1;lift1;lift1;lift1;lift1;lift1;lift1;", 53);
        faults("lift1;lift1;lift1;lift1;lift1;lift1;lift1;lift1;lift1 ;x", 54);
        faults("lift1;lift1;lift1;lift1;lift1;lift1;lift1;lift1;lift1 x", 54);
        faults("lift1;lift1;lift1;lift1;lift1;lift1;lift1;lift1;", 48);
    }

    /** Each number of each line at its bounds, and one beyond. */
    private static void boundsOfNumbers() {
        bounds("pipe ", 1, 11, " 0 5 5 5");
        bounds("pipe 6 ", 0, 5, " 5 5 5");
        bounds("pipe 11 ", 0, 10, " 5 5 5");
        bounds("pipe 1 0 ", 0, 99, " 5 5");
        bounds("pipe 1 0 5 ", 1, 60, " 5");
        bounds("pipe 1 0 5 5 ", 0, 99, "");
        bounds("flow ", 0, 11, " 5");
        bounds("flow 5 ", 0, 999, "");
        bounds("source ", 0, 11, " 5 5");
        bounds("source 5 ", 0, 99, " 5");
        bounds("source 5 5 ", 0, 9999, "");
        bounds("gulp ", 0, 11, " 5 5");
        bounds("gulp 5 ", 0, 23, " 23");
        bounds("gulp 5 6 ", 6, 23, "");
        bounds("rain ", 0, 23, " 5");
        bounds("rain 5 ", 0, 90, "");
        bounds("cup ", 0, 3, " 5 5 5");
        bounds("cup 2 ", 1, 9999, " 5 5");
        bounds("cup 2 5 ", 0, 9, " 5");
        bounds("cup 2 5 5 ", 0, 9, "");
        bounds("lift ", 0, 60, "");
        bounds("none ", 0, 99, "");
    }

    private static void bounds(String ahead, int least, int most, String behind) {
        check.due(ahead + least + behind, Check.faultOf(ahead + least + behind), NONE);
        check.due(ahead + most + behind, Check.faultOf(ahead + most + behind), NONE);
        faults(ahead + (most + 1) + behind, ahead.length());
        if (least > 0) {
            faults(ahead + (least - 1) + behind, ahead.length());
        }
    }

    private static void faults(String text, int place) {
        UpDrain x = new UpDrain();
        Check.write(x, text);
        check.due("fault of '" + text + "'", x.fault(), place);
        check.due("fault of '" + text + "' again", x.fault(), place);
        check.due("town of '" + text + "'", x.town(), NOT);
        check.due("count(1) of '" + text + "'", x.count(1), text.length());
        check.due("count(0) of '" + text + "'", x.count(0), 1);
        check.due("count(4) of '" + text + "'", x.count(4), 0);
    }

    private static void tellingTheTown() {
        UpDrain x = new UpDrain();
        check.due("town of nothing", x.town(), NOT);
        Check.write(x, "lift 5;lift 6;none 7");
        check.due("fault()", x.fault(), NONE);
        check.due("nothing is done by fault()", x.count(4), 0);
        check.due("town()", x.town(), 3);
        check.due("the text is empty then", x.count(1), 0);
        check.due("the later line holds", x.count(4), 6);
        check.due("none", x.count(5), 7);
        check.due("town() again", x.town(), NOT);
    }

    private static void pipesAreToldAgain() {
        UpDrain x = Check.townOf("pipe 5 3 7 8 9");
        pipe(x, 5, 3, 7, 8, 9);
        pipe(x, 3, 0, 0, 1, 0);
        check.due("nodes", x.count(0), 3);
        Check.tell(x, "pipe 3 2 4 5 6");
        pipe(x, 3, 2, 4, 5, 6);
        pipe(x, 2, 0, 0, 1, 0);
        pipe(x, 5, 3, 7, 8, 9);
        // A node that is there keeps its pipe when another goes to it.
        Check.tell(x, "pipe 2 1 9 9 9;pipe 7 2 1 2 3;pipe 8 3 1 2 3");
        pipe(x, 2, 1, 9, 9, 9);
        pipe(x, 3, 2, 4, 5, 6);
        pipe(x, 1, 0, 0, 1, 0);
        Check.tell(x, "pipe 5 0 1 1 1");
        pipe(x, 5, 0, 1, 1, 1);
        check.due("above(3)", x.above(3), 1 << 3 | 1 << 8);
        check.due("nodes", x.count(0), 7);
        // In one text the later line of a node holds.
        Check.tell(x, "pipe 9 8 1 1 1;pipe 9 7 2 2 2");
        pipe(x, 9, 7, 2, 2, 2);
        check.due("the outfall has no pipe", x.of(0, 0), NONE);
    }

    private static void pipe(UpDrain x, int node, int down, int minutes, int walk, int gone) {
        check.due("of(" + node + ", 0)", x.of(node, 0), down);
        check.due("of(" + node + ", 1)", x.of(node, 1), minutes);
        check.due("of(" + node + ", 2)", x.of(node, 2), walk);
        check.due("of(" + node + ", 3)", x.of(node, 3), gone);
    }

    private static void whatIsToldAheadIsKept() {
        UpDrain x = Check.townOf("flow 4 50;source 4 6 70;gulp 4 8 9");
        check.due("node 4 is not there", x.of(4, 4), UNKNOWN);
        check.due("it is no source", x.count(2), 0);
        check.due("its flow does not count", x.flow(0, 0), 1);
        Check.tell(x, "pipe 4 0 0 1 0");
        int[] due = {0, 0, 1, 0, 50, 6, 70, 8, 9};
        for (int what = 0; what < due.length; what++) {
            check.due("kept: of(4, " + what + ")", x.of(4, what), due[what]);
        }
        check.due("it is a source now", x.count(2), 1);
        check.due("its flow counts now", x.flow(0, 0), 50);
        // A node can come to be there by another's pipe too.
        UpDrain y = Check.townOf("source 3 5 5;pipe 9 3 1 1 1");
        check.due("of(3, 5)", y.of(3, 5), 5);
    }

    private static void sourcesAndGulps() {
        UpDrain x = Check.townOf("source 0 5 100;gulp 0 3 7");
        hours(x, 3, 7);
        Check.tell(x, "gulp 0 4 4");
        hours(x, 4, 4);
        check.due("a gulp leaves LIKELY", x.of(0, 5), 5);
        check.due("a gulp leaves STRENGTH", x.of(0, 6), 100);
        Check.tell(x, "source 0 6 200");
        hours(x, 0, 23);
        check.due("LIKELY told again", x.of(0, 5), 6);
        check.due("STRENGTH told again", x.of(0, 6), 200);
        Check.tell(x, "source 0 0 300");
        check.due("LIKELY 0 is none", x.count(2), 0);
        check.due("its STRENGTH is kept", x.of(0, 6), 300);
    }

    private static void hours(UpDrain x, int from, int to) {
        check.due("of(0, 7)", x.of(0, 7), from);
        check.due("of(0, 8)", x.of(0, 8), to);
    }

    /** Each line by itself changes what it tells, and nothing else. */
    private static void linesTellOneThing() {
        String[] lines = {"flow 0 7", "source 0 8 9", "gulp 0 5 6", "rain 0 10", "cup 0 11 1 2", "lift 3", "none 4"};
        for (int done = 0; done < lines.length; done++) {
            UpDrain x = Check.townOf("flow 0 2", lines[done]);
            String behind = " behind " + lines[done];
            check.due("flow" + behind, x.of(0, 4), done == 0 ? 7 : 2);
            check.due("LIKELY" + behind, x.of(0, 5), done == 1 ? 8 : 0);
            check.due("STRENGTH" + behind, x.of(0, 6), done == 1 ? 9 : 0);
            check.due("from" + behind, x.of(0, 7), done == 2 ? 5 : 0);
            check.due("to" + behind, x.of(0, 8), done == 2 ? 6 : 23);
            check.due("rain" + behind, x.flow(0, 0), done == 0 ? 7 : done == 3 ? 4 : 2);
            check.due("no rain" + behind, x.flow(0, 1), done == 0 ? 7 : 2);
            check.due("cup" + behind, x.cup(0, 0), done == 4 ? 11 : 1);
            check.due("A" + behind, x.cup(0, 1), done == 4 ? 1 : 0);
            check.due("B" + behind, x.cup(0, 2), done == 4 ? 2 : 0);
            check.due("lift" + behind, x.count(4), done == 5 ? 3 : 0);
            check.due("none" + behind, x.count(5), done == 6 ? 4 : 0);
            check.due("nodes" + behind, x.count(0), 1);
        }
    }

    private static void ofANode() {
        UpDrain x = Check.townOf("pipe 2 0 3 4 5");
        check.due("of(-1, 0)", x.of(-1, 0), UNKNOWN);
        check.due("of(12, 0)", x.of(12, 0), UNKNOWN);
        check.due("of(1, 0)", x.of(1, 0), UNKNOWN);
        check.due("of(1, 9)", x.of(1, 9), UNKNOWN);
        check.due("of(min, 0)", x.of(Integer.MIN_VALUE, 0), UNKNOWN);
        check.due("of(34, 0)", x.of(34, 0), UNKNOWN);
        check.due("of(2, -1)", x.of(2, -1), OUTSIDE);
        check.due("of(2, 9)", x.of(2, 9), OUTSIDE);
        check.due("of(2, 8)", x.of(2, 8), 23);
    }

    private static void ofACup() {
        UpDrain x = Check.townOf("cup 3 70 8 9");
        check.due("cup(3, 0)", x.cup(3, 0), 70);
        check.due("cup(3, 1)", x.cup(3, 1), 8);
        check.due("cup(3, 2)", x.cup(3, 2), 9);
        check.due("cup(3, 3)", x.cup(3, 3), OUTSIDE);
        check.due("cup(3, -1)", x.cup(3, -1), OUTSIDE);
        check.due("cup(4, 0)", x.cup(4, 0), UNKNOWN);
        check.due("cup(-1, 0)", x.cup(-1, 0), UNKNOWN);
        check.due("cup(4, 3)", x.cup(4, 3), UNKNOWN);
        check.due("cup(2, 0)", x.cup(2, 0), 1);
    }

    private static void aboveANode() {
        UpDrain x = Check.townOf("pipe 2 0 0 1 0;pipe 5 2 0 1 0;pipe 7 2 0 1 0;pipe 11 7 0 1 0;pipe 3 0 0 1 0");
        check.due("above(0)", x.above(0), 1 | 1 << 2 | 1 << 3 | 1 << 5 | 1 << 7 | 1 << 11);
        check.due("above(2)", x.above(2), 1 << 2 | 1 << 5 | 1 << 7 | 1 << 11);
        check.due("above(7)", x.above(7), 1 << 7 | 1 << 11);
        check.due("above(11)", x.above(11), 1 << 11);
        check.due("above(3)", x.above(3), 1 << 3);
        check.due("above(1)", x.above(1), UNKNOWN);
        check.due("above(12)", x.above(12), UNKNOWN);
        check.due("above(-1)", x.above(-1), UNKNOWN);
    }

    private static void walking() {
        UpDrain x = Check.townOf("pipe 2 0 0 10 0;pipe 5 2 0 20 0;pipe 7 2 0 30 0;pipe 11 7 0 40 0;pipe 3 0 0 50 0");
        check.due("walk(0, 0)", x.walk(0, 0), 0);
        check.due("walk(11, 11)", x.walk(11, 11), 0);
        check.due("walk(11, 0)", x.walk(11, 0), 80);
        check.due("walk(0, 11)", x.walk(0, 11), 80);
        check.due("walk(11, 5)", x.walk(11, 5), 90);
        check.due("walk(5, 11)", x.walk(5, 11), 90);
        check.due("walk(3, 11)", x.walk(3, 11), 130);
        check.due("walk(2, 7)", x.walk(2, 7), 30);
        UpDrain y = Check.longest();
        check.due("walk(0, 11)", y.walk(0, 11), 33);
        check.due("walk(11, 0)", y.walk(11, 0), 33);
        check.due("above(0) of all", y.above(0), 4095);
        check.due("above(10) of all", y.above(10), 3 << 10);
        UpDrain z = Check.townOf("pipe 10 0 0 60 0;pipe 11 0 0 60 0", "pipe 10 8 0 60 0;pipe 11 9 0 60 0",
            "pipe 8 6 0 60 0;pipe 9 7 0 60 0;pipe 6 4 0 60 0;pipe 7 5 0 60 0", "pipe 4 2 0 60 0;pipe 5 3 0 60 0;pipe 3 1 0 60 0",
            "pipe 2 0 0 60 0;pipe 1 0 0 60 0");
        check.due("the longest walk", z.walk(10, 11), 11 * 60);
        check.due("walk(1, 0)", x.walk(1, 0), UNKNOWN);
        check.due("walk(0, 1)", x.walk(0, 1), UNKNOWN);
        check.due("walk(1, 1)", x.walk(1, 1), UNKNOWN);
        check.due("walk(0, 12)", x.walk(0, 12), UNKNOWN);
        check.due("walk(-1, 0)", x.walk(-1, 0), UNKNOWN);
    }

    private static void counting() {
        UpDrain x = Check.townOf("pipe 5 3 7 8 9;source 5 2 3;source 0 1 0;source 9 1 1;lift 12;none 34");
        x.found(0, 1, 0, 1, true);
        Check.write(x, "abc");
        int[] due = {3, 3, 2, 1, 12, 34, 9};
        for (int what = 0; what < due.length; what++) {
            check.due("count(" + what + ")", x.count(what), due[what]);
        }
        check.due("count(7)", x.count(7), OUTSIDE);
        check.due("count(-1)", x.count(-1), OUTSIDE);
    }
}
