import java.util.function.ToIntFunction;

/** The bounds of THE TEXT and of the numbers of its LINES, sentence by sentence: promises 2 to 5 and their terms. */
public final class TextBoundsTest {
    private static final int NONE = UpDrain.NONE, NOT = UpDrain.NOT, FULL = UpDrain.FULL, OUTSIDE = UpDrain.OUTSIDE;
    private static final String[] LINES = {
        "pipe 6 0 7 8 9", "flow 6 7", "source 6 7 8", "gulp 6 7 8", "rain 6 7", "cup 2 7 8 9", "lift 7", "none 7"};
    private static final Check check = new Check();

    public static void main(String[] args) {
        twoHundredBytes();
        theLastOfTwoHundredBytes();
        nineLines();
        whatStandsBetweenLines();
        eightKindsOfLines();
        letters();
        digits();
        blanks();
        howManyDigits();
        numbersOfPipe();
        theLowerNodeOfEachPipe();
        numbersOfFlowAndRain();
        numbersOfSource();
        numbersOfGulp();
        numbersOfCup();
        numbersOfLiftAndNone();
        allNumbers();
        whereTheFaultIs();
        theEndTooSoon();
        bytesOfWrite();
        erasing();
        placesOfFaults();
        linesThatAreDone();
        aTextThatIsNotDone();
        check.end("TextBoundsTest");
    }

    // ---- the text

    private static void twoHundredBytes() {
        check.says(0, "THE TEXT is a row of bytes, 200 at most");
        UpDrain x = new UpDrain();
        for (int i = 1; i <= 24; i++) {
            check.due("write 8, the time " + i, x.write(0, 8), 8 * i);
        }
        check.due("write 8 at 192", x.write(0, 8), 200);
        for (int n = 1; n <= 8; n++) {
            check.due("write " + n + " at 200", x.write(0, n), FULL);
        }
        check.due("count(1)", x.count(1), 200);
        for (int free = 0; free < 8; free++) {
            UpDrain y = new UpDrain();
            Check.write(y, " ".repeat(200 - free));
            check.due("one byte more than the " + free + " that are free", y.write(0, free + 1), FULL);
            check.due("nothing of it is kept", y.count(1), 200 - free);
            check.due("all that are free", free == 0 ? 200 : y.write(0, free), 200);
        }
        x.erase();
        Check.write(x, " ".repeat(200));
        check.due("as many behind erase", x.count(1), 200);
        x.erase();
        Check.tell(x, " ".repeat(194) + "lift 5");
        Check.write(x, " ".repeat(200));
        check.due("as many behind town", x.count(1), 200);
    }

    private static void theLastOfTwoHundredBytes() {
        check.says(0, "THE TEXT is a row of bytes, 200 at most");
        UpDrain x = new UpDrain();
        Check.write(x, " ".repeat(193) + "lift 59");
        check.due("fault", x.fault(), NONE);
        check.due("town", x.town(), 1);
        check.due("the last byte is a digit of the number", x.count(4), 59);
        faults(" ".repeat(193) + "lift 5x", 199);
        faults(" ".repeat(196) + "lift", 200);
        faults(" ".repeat(193) + "lift 5;", 200);
        faults(" ".repeat(200), 200);
        faults("x".repeat(200), 0);
        faults("lift" + "5".repeat(196), 4);
    }

    private static void nineLines() {
        check.says(0, "LINES with ; (59) between, 9 at most");
        for (int lines = 1; lines <= 9; lines++) {
            UpDrain x = new UpDrain();
            Check.write(x, "lift7;".repeat(lines - 1) + "lift8");
            check.due("fault of " + lines + " lines", x.fault(), NONE);
            check.due("town of " + lines + " lines", x.town(), lines);
            check.due("the last one is done", x.count(4), 8);
        }
        for (int lines = 10; lines <= 33; lines++) {
            faults("lift7;".repeat(lines - 1) + "lift8", 53);
        }
        faults("lift7;".repeat(9), 53);
        faults("lift7;".repeat(8) + "lift7 ;", 54);
        faults("lift7;".repeat(8), 48);
    }

    private static void whatStandsBetweenLines() {
        check.says(0, "LINES with ; (59) between, 9 at most");
        good("lift 5;none 5");
        faults("lift 5" + (char) 58 + "none 5", 6);
        faults("lift 5" + (char) 60 + "none 5", 6);
        faults("lift 5" + (char) (59 + 128) + "none 5", 6);
        faults("lift 5 none 5", 7);
        faults(";", 0);
        faults(";lift 5", 0);
        faults("lift 5;", 7);
        faults("lift 5; ", 8);
        faults("lift 5;;none 5", 7);
        faults("lift 5; ;none 5", 8);
        faults("", 0);
    }

    private static void eightKindsOfLines() {
        check.says(0, "each is one of: pipe V U M W F. flow V N. source V L S. gulp V I J. rain H R. cup K L A B. lift N. none N.");
        for (String line : LINES) {
            good(line);
            // One number more or less, or another kind in its place.
            faults(line + " 1", line.length() + 1);
            faults(line + " " + line, line.length() + 1);
            int last = line.lastIndexOf(' ');
            faults(line.substring(0, last), last);
            faults(line.substring(0, last) + ";lift 1", last);
            for (String other : LINES) {
                good(line + ";" + other);
            }
        }
        faults("walk 1 2", 0);
        faults("fault", 0);
        faults("outfall 0", 0);
    }

    // ---- what it is written in

    private static void letters() {
        check.says(0, "As written here, without points; small letters a .. z");
        faults("lift 5.", 6);
        faults("lift. 5", 4);
        faults("lift 5. none 5.", 6);
        // A letter makes the word another one; a byte that is none ends it.
        faults("lifta 5", 0);
        faults("liftz 5", 0);
        faults("lift" + (char) 96 + " 5", 4);
        faults("lift" + (char) 123 + " 5", 4);
        faults("alift 5", 0);
        faults((char) 96 + "lift 5", 0);
        faults((char) 123 + "lift 5", 0);
        for (String word : new String[] {"pipe", "flow", "source", "gulp", "rain", "cup", "lift", "none"}) {
            faults(word, word.length());
            faults(word.substring(1), 0);
            faults(word.substring(0, word.length() - 1), 0);
            faults(word + "s", 0);
            faults(word.toUpperCase(), 0);
            anotherLetter(word);
            faults(Character.toUpperCase(word.charAt(0)) + word.substring(1), 0);
            faults((char) (word.charAt(0) + 128) + word.substring(1), 0);
        }
    }

    private static void anotherLetter(String word) {
        for (int i = 0; i < word.length(); i++) {
            for (char letter = 'a'; letter <= 'z'; letter++) {
                if (letter != word.charAt(i)) {
                    faults(word.substring(0, i) + letter + word.substring(i + 1) + " 1 1 1 1 1", 0);
                }
            }
        }
    }

    private static void digits() {
        check.says(0, "small letters a .. z, numbers of 1 to 4 digits");
        UpDrain x = Check.townOf("flow 0 0", "flow 0 9");
        check.due("9 is a digit", x.of(0, 4), 9);
        Check.tell(x, "flow 0 908");
        check.due("digits in their order", x.of(0, 4), 908);
        Check.tell(x, "flow 0 123;source 0 45 6789");
        check.due("all digits", x.of(0, 4) * 1000000L + x.of(0, 5) * 10000L + x.of(0, 6), 123456789);
        faults("lift " + (char) 47, 5);
        faults("lift " + (char) 58, 5);
        faults("lift 1" + (char) 47, 6);
        faults("lift 1" + (char) 58, 6);
        faults("lift " + (char) ('1' + 128), 5);
        faults("lift -1", 5);
        faults("lift +1", 5);
    }

    private static void blanks() {
        check.says(0, "blanks (32) between.");
        good("lift 5");
        good("lift     5   ;   none     5");
        good("lift5;none5");
        for (int sign = 0; sign < 256; sign++) {
            if (sign != 32 && (sign < '0' || sign > '9') && (sign < 'a' || sign > 'z')) {
                faults("lift" + (char) sign + "5", 4);
            }
        }
        // Without a blank two numbers are one.
        faults("flow 11", 7);
        faults("flow 15", 5);
        faults("l ift 5", 0);
        faults("lift 1 5", 7);
    }

    private static void howManyDigits() {
        check.says(0, "numbers of 1 to 4 digits");
        for (String zeros : new String[] {"", "0", "00", "000"}) {
            UpDrain x = Check.townOf("flow " + zeros + "0 " + zeros + "7");
            check.due(zeros + "7", x.of(0, 4), 7);
        }
        UpDrain y = Check.townOf("source 0 1 9999");
        check.due("9999", y.of(0, 6), 9999);
        faults("flow 00000 7", 5);
        faults("flow 0 00007", 7);
        faults("source 0 1 10000", 11);
        faults("source 0 1 09999", 11);
        faults("lift 4294967296", 5);
        faults("lift 18446744073709551616", 5);
        faults("lift 0000000000", 5);
    }

    // ---- the numbers of the lines

    private static void numbersOfPipe() {
        check.says(0, "NODE V (1 .. 11) goes down to NODE U (0 .. V - 1) in M minutes (0 .. 99), W minutes to walk (1 .. 60), "
            + "of what comes F hundredths are gone (0 .. 99)");
        bounds("pipe ", 1, 11, " 0 7 8 9", x -> 31 - Integer.numberOfLeadingZeros(x.above(0)));
        bounds("pipe 6 ", 0, 5, " 7 8 9", x -> x.of(6, 0));
        bounds("pipe 6 0 ", 0, 99, " 8 9", x -> x.of(6, 1));
        bounds("pipe 6 0 7 ", 1, 60, " 9", x -> x.of(6, 2));
        bounds("pipe 6 0 7 8 ", 0, 99, "", x -> x.of(6, 3));
    }

    private static void theLowerNodeOfEachPipe() {
        check.says(0, "goes down to NODE U (0 .. V - 1)");
        for (int v = 1; v < 12; v++) {
            int node = v;
            String ahead = "pipe " + v + " ";
            bounds(ahead, 0, v - 1, " 7 8 9", x -> x.of(node, 0));
            for (int u = v; u < 15; u++) {
                faults(ahead + u + " 7 8 9", ahead.length());
            }
        }
        faults("pipe 0 0 7 8 9", 5);
    }

    private static void numbersOfFlowAndRain() {
        check.says(0, "N (0 .. 999; 0 at first) flows in at NODE V.");
        check.due("flow at first", new UpDrain().of(0, 4), 0);
        boundsOfNode("flow ", " 5", 4, 5);
        bounds("flow 0 ", 0, 999, "", x -> x.of(0, 4));
        check.says(0, "in HOUR H (0 .. 23) all flow is R tenths more (0 .. 90; 0 at first).");
        UpDrain y = Check.townOf("flow 0 100");
        for (int hour = 0; hour < 24; hour++) {
            check.due("rain at first", y.flow(0, hour), 100);
        }
        bounds("flow 0 1;rain ", 0, 23, " 90", TextBoundsTest::hourOfRain);
        bounds("flow 0 10;rain 7 ", 0, 90, "", x -> x.flow(0, 7) - 10);
    }

    /** The one hour in which more than 1 flows. */
    private static int hourOfRain(UpDrain x) {
        int found = -1;
        for (int hour = 0; hour < 24; hour++) {
            if (x.flow(0, hour) > 1) {
                found = found == -1 ? hour : -2;
            }
        }
        return found;
    }

    private static void numbersOfSource() {
        check.says(0, "at NODE V (0 .. 11, as of flow, gulp), LIKELY L (0 .. 99; 0: none, as at first), STRENGTH S (0 .. 9999; 0 at first)");
        check.due("LIKELY at first", new UpDrain().of(0, 5), 0);
        check.due("STRENGTH at first", new UpDrain().of(0, 6), 0);
        boundsOfNode("source ", " 7 8", 5, 7);
        bounds("source 0 ", 0, 99, " 8", x -> x.of(0, 5));
        bounds("source 0 7 ", 0, 9999, "", x -> x.of(0, 6));
    }

    private static void numbersOfGulp() {
        check.says(0, "one at V lets in from HOUR I to J alone (J 23 at most, not below I).");
        boundsOfNode("gulp ", " 7 8", 7, 7);
        bounds("gulp 0 ", 0, 23, " 23", x -> x.of(0, 7));
        for (int from = 0; from < 24; from++) {
            bounds("gulp 0 " + from + " ", from, 23, "", x -> x.of(0, 8));
        }
    }

    private static void numbersOfCup() {
        check.says(0, "CUP K (0 .. 3) tells what is L (1 .. 9999; at first 1) or more; A, B tenths are WRONG (0 .. 9; 0 at first)");
        for (int cup = 0; cup < 4; cup++) {
            check.due("tells at first", new UpDrain().cup(cup, 0), 1);
            check.due("A at first", new UpDrain().cup(cup, 1), 0);
            check.due("B at first", new UpDrain().cup(cup, 2), 0);
        }
        bounds("cup ", 0, 3, " 7 8 9", TextBoundsTest::cupThatTellsSeven);
        bounds("cup 2 ", 1, 9999, " 8 9", x -> x.cup(2, 0));
        bounds("cup 2 7 ", 0, 9, " 8", x -> x.cup(2, 1));
        bounds("cup 2 7 8 ", 0, 9, "", x -> x.cup(2, 2));
    }

    private static int cupThatTellsSeven(UpDrain x) {
        for (int cup = 0; cup < 4; cup++) {
            if (x.cup(cup, 0) == 7) {
                return cup;
            }
        }
        return -1;
    }

    private static void numbersOfLiftAndNone() {
        check.says(0, "N minutes for a LID (0 .. 60; 0 at first).");
        check.due("lift at first", new UpDrain().count(4), 0);
        bounds("lift ", 0, 60, "", x -> x.count(4));
        check.says(0, "how LIKELY it is that there is none (0 .. 99; 0 at first).");
        check.due("none at first", new UpDrain().count(5), 0);
        bounds("none ", 0, 99, "", x -> x.count(5));
    }

    /** The number of a NODE, of which then something is told. */
    private static void boundsOfNode(String ahead, String behind, int what, int told) {
        for (int node = 1; node < 12; node++) {
            UpDrain x = Check.townOf(ahead + node + behind, "pipe " + node + " 0 0 1 0");
            check.due(ahead + node + behind, x.of(node, what), told);
        }
        UpDrain y = Check.townOf(ahead + 0 + behind);
        check.due(ahead + 0 + behind, y.of(0, what), told);
        faults(ahead + 12 + behind, ahead.length());
        faults(ahead + 9999 + behind, ahead.length());
    }

    /** The least and the greatest are told and seen then; one less and one more are a fault where the number begins. */
    private static void bounds(String ahead, int least, int most, String behind, ToIntFunction<UpDrain> seen) {
        for (int number : new int[] {least, most}) {
            UpDrain x = Check.townOf(ahead + number + behind);
            check.due("behind " + ahead + number + behind, seen.applyAsInt(x), number);
        }
        if (least > 0) {
            faults(ahead + (least - 1) + behind, ahead.length());
        }
        if (most < 9999) {
            faults(ahead + (most + 1) + behind, ahead.length());
        }
        faults(ahead + "10000" + behind, ahead.length());
    }

    /** Every number of one to four digits at every place. */
    private static void allNumbers() {
        check.says(0, "a number out of its bounds, of more digits, or below the one ahead that it must not be below, also");
        all("pipe ", 1, 11, " 0 7 8 9");
        all("pipe 6 ", 0, 5, " 7 8 9");
        all("pipe 6 0 ", 0, 99, " 8 9");
        all("pipe 6 0 7 ", 1, 60, " 9");
        all("pipe 6 0 7 8 ", 0, 99, "");
        all("flow ", 0, 11, " 7");
        all("flow 6 ", 0, 999, "");
        all("source ", 0, 11, " 7 8");
        all("source 6 ", 0, 99, " 8");
        all("source 6 7 ", 0, 9999, "");
        all("gulp ", 0, 11, " 7 8");
        all("gulp 6 ", 0, 13, " 13");
        all("gulp 6 7 ", 7, 23, "");
        all("rain ", 0, 23, " 7");
        all("rain 7 ", 0, 90, "");
        all("cup ", 0, 3, " 7 8 9");
        all("cup 2 ", 1, 9999, " 8 9");
        all("cup 2 7 ", 0, 9, " 9");
        all("cup 2 7 8 ", 0, 9, "");
        all("lift ", 0, 60, "");
        all("none ", 0, 99, "");
    }

    /** Of a gulp's first HOUR that is too great for the second, it is the second that is below the one ahead. */
    private static void all(String ahead, int least, int most, String behind) {
        UpDrain x = new UpDrain();
        for (int number = 0; number < 10000; number++) {
            if (number % 50 == 0) {
                x = new UpDrain();
            }
            Check.write(x, ahead + number + behind);
            boolean belowTheOneAhead = behind.equals(" 13") && number > 13 && number < 24;
            int place = ahead.length() + (belowTheOneAhead ? 3 : 0);
            check.due(ahead + number + behind, x.fault(), number >= least && number <= most ? NONE : place);
            x.erase();
        }
    }

    // ---- faults

    private static void whereTheFaultIs() {
        check.says(0, "A FAULT is at the first TOKEN (a row of small letters, a row of digits, any other byte) that cannot stand there");
        faults("lift 61;lift 62", 5);
        faults("lift 60;lift 61", 13);
        faults("lift x;bad", 5);
        faults("bad;lift x", 0);
        faults("lift ;none 5", 5);
        faults("lift 5 ;5", 8);
        faults("lift 5 ; lift", 13);
        faults("lift lift", 5);
        faults("5 5", 0);
        faults("pipe 3 1 100 0 100", 9);
        faults("pipe 3 1 99 0 100", 12);
        faults("pipe 3 1 99 1 100", 14);
        faults("pipe 3 1 99 1 99 1", 17);
        // Each other byte is a TOKEN of its own.
        faults("lift 5--", 6);
        faults("lift 5  --", 8);
        faults("lift 5%6", 6);
        faults("lift 5" + (char) 0, 6);
        faults("lift " + (char) 255, 5);
        faults("lift 60" + (char) 128, 7);
        // A row of letters behind a row of digits, and the other way round, is a TOKEN of its own.
        faults("lift 60lift", 7);
        faults("lift60lift", 6);
        faults("lift60none60", 6);
        check.says(0, "below the one ahead that it must not be below, also");
        faults("gulp 3 23 22", 10);
        faults("gulp 3 1 0", 9);
        faults("gulp 3 10 9", 10);
        faults("gulp 3 9 0008", 9);
        good("gulp 11 10 10");
        good("cup 3 9999 9 0");
    }

    private static void theEndTooSoon() {
        check.says(0, "or at the end, if it comes too soon.");
        for (String line : LINES) {
            String[] tokens = line.split(" ");
            String soFar = "";
            for (int i = 0; i < tokens.length; i++) {
                faults(soFar, soFar.length());
                faults(soFar + "  ", soFar.length() + 2);
                faults(line + ";" + soFar, line.length() + 1 + soFar.length());
                soFar = i == 0 ? tokens[0] : soFar + " " + tokens[i];
            }
            good(line);
            good(line + ";" + line);
        }
    }

    // ---- the calls

    private static void bytesOfWrite() {
        check.says(2, "byte i being bytes >> 8 i & 255: how many it has.");
        String text = "none  99";
        for (int n = 1; n <= 8; n++) {
            UpDrain x = new UpDrain();
            long bytes = n == 8 ? 0 : -1L << 8 * n;
            for (int i = 0; i < n; i++) {
                bytes |= (long) text.charAt(i) << 8 * i;
            }
            check.due("write of " + n, x.write(bytes, n), n);
            check.due("count(1)", x.count(1), n);
            check.due("bytes from n on are not looked at", x.fault(), n < 4 ? 0 : n < 7 ? n : NONE);
        }
        UpDrain y = new UpDrain();
        for (int i = 0; i < 8; i++) {
            check.due("one by one", y.write(text.charAt(i), 1), i + 1);
        }
        check.due("town", y.town(), 1);
        check.due("99", y.count(5), 99);
        // The eighth byte of a number below 0 is one byte as well.
        y.write(' ' | ' ' << 8 | ' ' << 16 | (long) ' ' << 24 | (long) ' ' << 32 | (long) ' ' << 40 | (long) ' ' << 48 | 0xe2L << 56, 8);
        check.due("a byte of 226", y.fault(), 7);
        check.says(2, "n (1 .. 8) bytes more of THE TEXT");
        UpDrain z = new UpDrain();
        check.due("n 0", z.write(-1, 0), OUTSIDE);
        check.due("n 9", z.write(-1, 9), OUTSIDE);
        check.due("n 1", z.write(-1, 1), 1);
        check.due("n 8", z.write(-1, 8), 9);
        Check.write(z, " ".repeat(191));
        check.due("outside goes ahead of full", z.write(-1, 9), OUTSIDE);
        check.due("outside goes ahead of full", z.write(-1, 0), OUTSIDE);
    }

    private static void erasing() {
        check.says(3, "THE TEXT is empty: how many bytes it had.");
        UpDrain x = new UpDrain();
        check.due("of none", x.erase(), 0);
        x.write(0, 1);
        check.due("of one", x.erase(), 1);
        check.due("of none again", x.erase(), 0);
        check.due("count(1)", x.count(1), 0);
        check.due("fault", x.fault(), 0);
        Check.write(x, "lift 5;".repeat(28) + "lift");
        check.due("of 200", x.erase(), 200);
        // Nothing of it is left behind the new one.
        Check.write(x, "none 5");
        check.due("town", x.town(), 1);
        check.due("lift", x.count(4), 0);
    }

    private static void placesOfFaults() {
        check.says(4, "The place of the FAULT (the byte with which the TOKEN begins, or the length); NONE.");
        check.due("no text", new UpDrain().fault(), 0);
        check.due("the first byte", Check.faultOf("?"), 0);
        check.due("the last byte", Check.faultOf("lift 5?"), 6);
        check.due("the length", Check.faultOf("lift "), 5);
        check.due("where a number begins", Check.faultOf("lift    0061"), 8);
        check.due("where a word begins", Check.faultOf("   lifted 5"), 3);
        check.due("the last of 200", Check.faultOf("lift 5" + " ".repeat(193) + "?"), 199);
        check.due("200", Check.faultOf("lift" + " ".repeat(196)), 200);
        UpDrain x = new UpDrain();
        Check.write(x, "lift");
        check.due("too soon", x.fault(), 4);
        Check.write(x, " 5");
        check.due("written on", x.fault(), NONE);
        Check.write(x, "5");
        check.due("and on", x.fault(), NONE);
        Check.write(x, "5");
        check.due("and on", x.fault(), 5);
        check.due("nothing is done by it", x.count(4), 0);
        check.due("the text is kept", x.count(1), 8);
    }

    private static void linesThatAreDone() {
        check.says(5, "THE TEXT's LINES are done, and it is empty then: how many there were.");
        UpDrain x = new UpDrain();
        Check.write(x, "lift 5");
        check.due("one line", x.town(), 1);
        check.due("the text is empty", x.count(1), 0);
        check.due("no line", x.town(), NOT);
        Check.write(x, "pipe 1 0 0 1 0;flow 1 2;source 1 3 4;gulp 1 5 6;rain 0 10;cup 0 7 8 9;lift 10;none 11;flow 0 12");
        check.due("nine lines", x.town(), 9);
        check.due("the text is empty", x.count(1), 0);
        check.due("erase then", x.erase(), 0);
        int[] due = {0, 0, 1, 0, 2, 3, 4, 5, 6};
        for (int what = 0; what < due.length; what++) {
            check.due("of(1, " + what + ")", x.of(1, what), due[what]);
        }
        check.due("flow", x.flow(0, 0), 28);
        check.due("no rain", x.flow(0, 1), 14);
        check.due("cup", x.cup(0, 0) * 100 + x.cup(0, 1) * 10 + x.cup(0, 2), 789);
        check.due("lift", x.count(4), 10);
        check.due("none", x.count(5), 11);
        check.says(0, "LINES are done in their order.");
        Check.tell(x, "lift 1;lift 2;lift 3;none 3;none 2;none 1;pipe 5 4 1 2 3;pipe 5 3 2 3 4;source 5 1 1");
        check.due("the last lift", x.count(4), 3);
        check.due("the last none", x.count(5), 1);
        check.due("the last pipe", x.of(5, 0), 3);
        check.due("4 is there by the first one", x.of(4, 2), 1);
        Check.tell(x, "gulp 5 2 2;source 5 9 9");
        check.due("a source in all hours", x.of(5, 7) * 100 + x.of(5, 8), 23);
        Check.tell(x, "source 5 9 9;gulp 5 2 2");
        check.due("a gulp behind it", x.of(5, 7) * 100 + x.of(5, 8), 202);
    }

    private static void aTextThatIsNotDone() {
        check.says(5, "NOT: it has a FAULT.");
        String good = "pipe 1 0 0 1 0;flow 0 2;source 0 3 4;gulp 0 5 6;rain 0 10;cup 0 7 8 9;lift 10;none 11";
        for (String bad : new String[] {";", "x", " 1", ";lift", ";lift 61", ";lift 5;", ";lift 5;lift 5"}) {
            UpDrain x = new UpDrain();
            UpDrain y = new UpDrain();
            Check.write(x, good + bad);
            Check.write(y, good + bad);
            check.due("town of .." + bad, x.town(), NOT);
            check.alike("town of .." + bad, x, y);
        }
        UpDrain x = new UpDrain();
        Check.write(x, "lift 5;");
        check.due("too soon", x.town(), NOT);
        Check.write(x, "none 5");
        check.due("written on", x.town(), 2);
    }

    private static void good(String text) {
        check.due("fault of '" + text + "'", Check.faultOf(text), NONE);
    }

    private static void faults(String text, int place) {
        UpDrain x = new UpDrain();
        Check.write(x, text);
        check.due("fault of '" + text + "'", x.fault(), place);
        check.due("town of '" + text + "'", x.town(), NOT);
        check.due("count(1) of '" + text + "'", x.count(1), text.length());
    }
}
