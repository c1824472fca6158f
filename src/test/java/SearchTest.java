/** Promises 20 to 26: fewest, mean, soon, row, answers, hang, day. */
public final class SearchTest {
    private static final int NONE = UpDrain.NONE, UNKNOWN = UpDrain.UNKNOWN, OUTSIDE = UpDrain.OUTSIDE;
    private static final int NOT = UpDrain.NOT;
    private static final Check check = new Check();

    public static void main(String[] args) {
        noneOrOneSource();
        fewestInAChain();
        fewestInAStar();
        lidsAtNodesWithoutSource();
        theMean();
        soonInAChain();
        soonWithoutLift();
        searchesFollowTheTown();
        theGreatestTowns();
        searchesRefused();
        rows();
        shyRows();
        rowsRefused();
        answersOfASource();
        cupsThatHang();
        days();
        wrongAnswers();
        daysRefused();
        check.end("SearchTest");
    }

    /** 0 - 1 - 2 - 3 - 4, a minute's walk each. */
    private static UpDrain chain(String more) {
        return Check.townOf("pipe 1 0 0 1 0;pipe 2 1 0 1 0;pipe 3 2 0 1 0;pipe 4 3 0 1 0", more);
    }

    private static UpDrain star(String more) {
        return Check.townOf("pipe 1 0 0 1 0;pipe 2 0 0 2 0;pipe 3 0 0 3 0;pipe 4 0 0 4 0", more);
    }

    private static void fewest(UpDrain x, int lids, int first) {
        check.due("fewest(0)", x.fewest(0), lids);
        check.due("fewest(1)", x.fewest(1), first);
    }

    private static void mean(UpDrain x, int above, int below) {
        check.due("mean(0)", x.mean(0), above);
        check.due("mean(1)", x.mean(1), below);
    }

    private static void soon(UpDrain x, int node, int minutes, int first) {
        check.due("soon(" + node + ", 0)", x.soon(node, 0), minutes);
        check.due("soon(" + node + ", 1)", x.soon(node, 1), first);
    }

    private static void noneOrOneSource() {
        UpDrain x = chain("lift 9;none 5");
        fewest(x, 0, NONE);
        soon(x, 3, 0, NONE);
        check.due("mean(0)", x.mean(0), NOT);
        check.due("mean(1)", x.mean(1), NOT);
        Check.tell(x, "source 2 5 0");
        fewest(x, 0, NONE);
        soon(x, 0, 0, NONE);
        mean(x, 0, 1);
    }

    private static void fewestInAChain() {
        UpDrain x = chain("source 0 1 1;source 1 1 1;source 2 1 1;source 3 1 1");
        fewest(x, 2, 2);
        mean(x, 2, 1);
        // With five, 2 and 3 halve as well; 1 and 4 leave four, which needs two more.
        Check.tell(x, "source 4 1 1");
        fewest(x, 3, 1);
        mean(x, 12, 5);
    }

    private static void fewestInAStar() {
        UpDrain x = star("source 1 1 1;source 2 1 1;source 3 1 1;source 4 1 1");
        fewest(x, 3, 1);
        mean(x, 9, 4);
        Check.tell(x, "source 0 1 1");
        fewest(x, 4, 1);
        mean(x, 14, 5);
    }

    /** A lid is lifted at any node that is there, and the least of enough ones is told. */
    private static void lidsAtNodesWithoutSource() {
        UpDrain x = Check.townOf("pipe 2 1 0 1 0;pipe 3 2 0 1 0;pipe 4 2 0 1 0;pipe 5 0 0 1 0;pipe 6 0 0 1 0",
            "source 3 1 1;source 4 1 1;source 5 1 1;source 6 1 1");
        fewest(x, 2, 1);
        mean(x, 2, 1);
    }

    private static void theMean() {
        UpDrain x = star("source 1 1 1;source 2 2 1;source 3 4 1;source 4 8 1");
        // The likeliest first: 8 * 1 + 4 * 2 + 2 * 3 + 1 * 3.
        mean(x, 5, 3);
        fewest(x, 3, 1);
        // In lowest terms: 2 * 1 + 2 * 1 by 4.
        UpDrain y = star("source 1 2 1;source 2 2 1");
        mean(y, 1, 1);
        // Of none it is not asked.
        Check.tell(y, "none 50");
        mean(y, 1, 1);
        // The mean may want another first lid than the worst case.
        UpDrain z = chain("source 0 1 1;source 1 1 1;source 2 1 1;source 3 9 1");
        mean(z, 9 + 2 + 3 + 3, 12);
        fewest(z, 2, 2);
    }

    private static void soonInAChain() {
        UpDrain x = chain("source 0 1 1;source 1 1 1;source 2 1 1;source 3 1 1;lift 10");
        // To 2 and its lid; then 1 or 3 and its lid.
        soon(x, 0, 2 + 10 + 1 + 10, 2);
        soon(x, 2, 10 + 1 + 10, 2);
        soon(x, 4, 2 + 10 + 1 + 10, 2);
        soon(x, 1, 1 + 10 + 1 + 10, 2);
        soon(x, 3, 1 + 10 + 1 + 10, 2);
        // In a town of long ways and no lift it is best to look on the way.
        UpDrain y = Check.townOf("pipe 1 0 0 60 0;pipe 2 1 0 60 0;pipe 3 2 0 60 0;source 0 1 1;source 1 1 1;source 2 1 1;source 3 1 1");
        soon(y, 0, 180, 1);
        soon(y, 3, 120, 2);
        soon(y, 1, 120, 1);
        Check.tell(y, "lift 60");
        soon(y, 0, 120 + 60 + 60 + 60, 2);
    }

    /** A lid that tells nothing is not the first LID, though it would cost nothing on the way. */
    private static void soonWithoutLift() {
        UpDrain x = chain("source 3 1 1;source 4 1 1");
        soon(x, 0, 4, 4);
        soon(x, 4, 0, 4);
        // Of several first lids that are as good the least is told.
        UpDrain y = star("source 1 1 1;source 4 1 1;lift 1;pipe 4 0 0 1 0");
        soon(y, 0, 2, 1);
        soon(y, 4, 1, 4);
        soon(y, 1, 1, 1);
        soon(y, 2, 4, 1);
    }

    private static void searchesFollowTheTown() {
        UpDrain x = star("source 1 1 1;source 2 1 1;lift 1");
        soon(x, 0, 2, 1);
        Check.tell(x, "lift 5");
        soon(x, 0, 6, 1);
        Check.tell(x, "pipe 1 0 0 60 0");
        soon(x, 0, 7, 2);
        Check.tell(x, "source 4 1 1");
        fewest(x, 2, 1);
        mean(x, 5, 3);
        Check.tell(x, "source 4 3 1");
        mean(x, 7, 5);
        Check.tell(x, "source 4 0 1");
        fewest(x, 1, 1);
        mean(x, 1, 1);
        Check.tell(x, "pipe 11 0 0 1 0;source 11 1 1;source 2 0 0");
        fewest(x, 1, 1);
        soon(x, 0, 6, 11);
    }

    private static void theGreatestTowns() {
        UpDrain x = Check.longest();
        fewest(x, 4, 4);
        mean(x, 11, 3);
        // Without lift he goes up from lid to lid; from the middle he would have to turn.
        soon(x, 0, 33, 1);
        check.due("all but the outfall", x.hang(0), 4094);
        check.due("each second", x.hang(3), 1 << 2 | 1 << 4 | 1 << 6 | 1 << 8 | 1 << 10);
        row(x, 0x87654321, 8, -1, 9, 4);
        UpDrain y = Check.widest();
        fewest(y, 11, 1);
        // 1 + 2 + .. + 11 and 11 by 12.
        mean(y, 77, 12);
        soon(y, 0, 63, 1);
        soon(y, 1, 60, 1);
        check.due("all leaves", y.hang(0), 4094);
        check.due("all but one of the leaves", y.hang(3), 2046);
        // 609 modulo 12 is 9.
        day(y, 1, 0, 3 + 8 * 6, 9, 9, 9);
    }

    private static void searchesRefused() {
        UpDrain x = new UpDrain();
        check.due("fewest(2)", x.fewest(2), OUTSIDE);
        check.due("fewest(-1)", x.fewest(-1), OUTSIDE);
        check.due("mean(2)", x.mean(2), OUTSIDE);
        check.due("mean(-1)", x.mean(-1), OUTSIDE);
        check.due("soon(1, 0)", x.soon(1, 0), UNKNOWN);
        check.due("soon(12, 0)", x.soon(12, 0), UNKNOWN);
        check.due("soon(-1, 2)", x.soon(-1, 2), UNKNOWN);
        check.due("soon(0, 2)", x.soon(0, 2), OUTSIDE);
        check.due("soon(0, -1)", x.soon(0, -1), OUTSIDE);
    }

    private static void row(UpDrain x, int row, int n, int r, int kinds, int largest) {
        check.due("row(" + row + ", " + n + ", " + r + ", 0)", x.row(row, n, r, 0), kinds);
        check.due("row(" + row + ", " + n + ", " + r + ", 1)", x.row(row, n, r, 1), largest);
    }

    private static void rows() {
        UpDrain x = chain("source 0 1 1;source 1 1 1;source 2 1 1;source 3 1 1;source 4 1 1");
        row(x, 0x0, 1, -1, 1, 5);
        row(x, 0x1, 1, -1, 2, 4);
        row(x, 0x3, 1, -1, 2, 3);
        row(x, 0x33, 2, -1, 2, 3);
        row(x, 0x13, 2, -1, 3, 2);
        row(x, 0x4321, 4, -1, 5, 1);
        // Lids behind n do not count, even if there are no such ones.
        row(x, 0xfff1, 1, -1, 2, 4);
        row(x, 0x44321111, 8, -1, 5, 1);
        UpDrain y = chain("lift 0");
        row(y, 0x4321, 4, -1, 0, 0);
        row(y, 0x4321, 4, 5, 0, 0);
    }

    private static void shyRows() {
        UpDrain x = chain("source 0 1 1;source 1 1 1;source 2 1 1;source 3 1 1;source 4 1 1");
        // Lids 1, 2, 3, 4: of 4, at r 1, stops behind 3; of 3 behind 2; of 2 behind 1; of 1 behind 1; of 0 behind 1.
        check.due("answers of 4", x.answers(4, 0x4321, 4, 1), 7);
        check.due("answers of 3", x.answers(3, 0x4321, 4, 1), 3);
        check.due("answers of 2", x.answers(2, 0x4321, 4, 1), 1);
        check.due("answers of 1", x.answers(1, 0x4321, 4, 1), 1);
        check.due("answers of 0", x.answers(0, 0x4321, 4, 1), 0);
        row(x, 0x4321, 4, 1, 4, 2);
        row(x, 0x4321, 4, 0, 5, 1);
        // From the other end: all but those at the first lid stop there without a word.
        row(x, 0x1234, 4, 999, 2, 4);
        row(x, 0x1234, 4, -1, 5, 1);
    }

    private static void rowsRefused() {
        UpDrain x = chain("source 0 1 1");
        check.due("n 0", x.row(0, 0, -1, 0), OUTSIDE);
        check.due("n 9", x.row(0, 9, -1, 0), OUTSIDE);
        check.due("n -1", x.row(0, -1, -1, 0), OUTSIDE);
        check.due("n ahead of a lid", x.row(5, 0, -1, 0), OUTSIDE);
        check.due("a lid that is not there", x.row(5, 1, -1, 0), UNKNOWN);
        check.due("a lid above 11", x.row(15, 1, -1, 0), UNKNOWN);
        check.due("the eighth lid", x.row(0x50000000, 8, -1, 0), UNKNOWN);
        check.due("the eighth lid, of a negative row", x.row(0xf0000000, 8, -1, 0), UNKNOWN);
        check.due("seven of a negative row", x.row(0xf0000000, 7, -1, 0), 1);
        check.due("a lid ahead of what", x.row(5, 1, -1, 2), UNKNOWN);
        check.due("what 2", x.row(4, 1, -1, 2), OUTSIDE);
        check.due("what -1", x.row(4, 1, -1, -1), OUTSIDE);
        check.due("r -2", x.row(4, 1, -2, 0), OUTSIDE);
        check.due("r 1000", x.row(4, 1, 1000, 0), OUTSIDE);
        check.due("r 999", x.row(4, 1, 999, 0), 1);
    }

    private static void answersOfASource() {
        UpDrain x = chain("source 2 1 1;source 4 1 1;source 3 0 1");
        check.due("answers", x.answers(2, 0x43210, 5, -1), 7);
        check.due("answers in their order", x.answers(2, 0x01234, 5, -1), 28);
        check.due("eight answers", x.answers(4, 0x01234012, 8, -1), 255);
        check.due("shy at 0", x.answers(4, 0x12340, 5, 0), 3);
        check.due("shy at 3", x.answers(4, 0x12340, 5, 3), 3);
        check.due("shy at 4", x.answers(4, 0x12340, 5, 4), 1);
        check.due("n 0", x.answers(9, 0, 0, -1), OUTSIDE);
        check.due("n 9", x.answers(2, 0, 9, -1), OUTSIDE);
        check.due("no SOURCE", x.answers(3, 0, 1, -1), UNKNOWN);
        check.due("not there", x.answers(9, 0, 1, 1000), UNKNOWN);
        check.due("source -1", x.answers(-1, 0, 1, -1), UNKNOWN);
        check.due("source 12", x.answers(12, 0, 1, -1), UNKNOWN);
        check.due("a lid", x.answers(2, 9, 1, 1000), UNKNOWN);
        check.due("r 1000", x.answers(2, 0, 1, 1000), OUTSIDE);
        check.due("r -2", x.answers(2, 0, 1, -2), OUTSIDE);
    }

    private static void cupsThatHang() {
        UpDrain x = chain("source 0 1 1;source 1 1 1;source 2 1 1;source 3 1 1;source 4 1 1");
        check.due("hang(0)", x.hang(0), 2 | 4 | 8 | 16);
        // Farther than 1: 0-2, 0-3, 0-4, 1-3, 1-4, 2-4. A cup at each second pipe is enough.
        check.due("hang(1)", x.hang(1), 2 | 8);
        check.due("hang(2)", x.hang(2), 4);
        check.due("hang(3)", x.hang(3), 2);
        check.due("hang(4)", x.hang(4), 0);
        check.due("hang(999)", x.hang(999), 0);
        check.due("hang(1000)", x.hang(1000), OUTSIDE);
        check.due("hang(-1)", x.hang(-1), OUTSIDE);
        UpDrain y = star("source 1 1 1;source 2 1 1;source 3 1 1;source 4 1 1");
        check.due("three of four leaves", y.hang(0), 2 | 4 | 8);
        check.due("6 from 2, 7 from 3: all but 4 may be alike", y.hang(5), 16);
        check.due("4 from 3", y.hang(6), 8);
        // Fewer ones of a greater number go ahead of more ones of a lesser.
        UpDrain z = Check.townOf("pipe 3 0 0 1 0;pipe 4 3 0 1 0;pipe 1 0 0 1 0;source 4 1 1;source 0 1 1;source 1 1 1;source 3 1 1");
        check.due("the fewest", z.hang(1), 8);
    }

    private static void days() {
        // Seed 1: 39022, by 64 609, modulo 4 is 1: the second of the four.
        UpDrain x = chain("source 0 1 1;source 1 1 1;source 2 1 1;source 3 1 1;lift 10");
        day(x, 1, 0, 23, 1, 1, 2);
        // Seed 0: 13849, 216, modulo 4 is 0.
        day(x, 0, 0, 23, 0, 0, 2);
        // By LIKELY: 609 modulo 10 is 9, 216 modulo 10 is 6.
        Check.tell(x, "source 0 6 1;source 1 0 1;source 2 3 1");
        check.due("9 is the last", x.day(1, 0, 2), 3);
        check.due("6 is behind the first six", x.day(0, 0, 2), 2);
        UpDrain y = chain("source 3 9 1");
        day(y, 77, 0, 0, 3, 3, 0);
    }

    private static void wrongAnswers() {
        // Seed 1 draws 609, then 39022 * 25173 + 13849 mod 65536 = 61087, 954, modulo 10 is 4.
        UpDrain x = star("source 1 1 1;source 2 1 1;lift 5;cup 0 1 4 4;cup 1 1 5 0;cup 2 1 0 5");
        check.due("609 modulo 2", x.day(1, 0, 2), 2);
        check.due("lid 1 should be no, 4 is not less than 4", x.day(1, 0, 1), 2);
        check.due("4 is less than 5: wrong", x.day(1, 1, 1), 1);
        check.due("of yes alone", x.day(1, 2, 1), 2);
        check.due("minutes", x.day(1, 1, 0), 6);
        check.due("lids", x.day(1, 1, 3), 1);
        // The other one: lid 1 should be yes.
        Check.tell(x, "source 2 1 1;source 1 2 1");
        check.due("609 modulo 3 is 0", x.day(1, 0, 2), 1);
        check.due("4 is not less than 4", x.day(1, 0, 1), 1);
        check.due("of no alone", x.day(1, 1, 1), 1);
        check.due("of yes: wrong", x.day(1, 2, 1), 2);
    }

    private static void day(UpDrain x, int seed, int cup, int minutes, int guessed, int source, int lids) {
        String call = "day(" + seed + ", " + cup + ", ";
        check.due(call + "0)", x.day(seed, cup, 0), minutes);
        check.due(call + "1)", x.day(seed, cup, 1), guessed);
        check.due(call + "2)", x.day(seed, cup, 2), source);
        check.due(call + "3)", x.day(seed, cup, 3), lids);
    }

    private static void daysRefused() {
        UpDrain x = new UpDrain();
        check.due("cup 4", x.day(65536, 4, 0), UNKNOWN);
        check.due("cup -1", x.day(0, -1, 0), UNKNOWN);
        check.due("seed 65536", x.day(65536, 0, 0), OUTSIDE);
        check.due("seed -1", x.day(-1, 0, 0), OUTSIDE);
        check.due("what 4", x.day(0, 0, 4), OUTSIDE);
        check.due("what -1", x.day(0, 0, -1), OUTSIDE);
        check.due("no SOURCES", x.day(0, 0, 0), NOT);
        Check.tell(x, "source 0 1 1");
        check.due("seed 65535", x.day(65535, 0, 2), 0);
    }
}
