/** Promises 10 to 12: flow, comes, should. */
public final class WaterTest {
    private static final int UNKNOWN = UpDrain.UNKNOWN, OUTSIDE = UpDrain.OUTSIDE;
    private static final Check check = new Check();

    public static void main(String[] args) {
        flowing();
        coming();
        comingByHours();
        fading();
        thinning();
        comingRefused();
        shouldSay();
        pouredTogether();
        hungForHours();
        shouldRefused();
        check.end("WaterTest");
    }

    private static UpDrain chain(String more) {
        return Check.townOf("pipe 1 0 10 1 50;pipe 2 1 20 1 10;pipe 3 2 30 1 0;pipe 4 0 0 1 0", more);
    }

    private static void flowing() {
        UpDrain x = chain("flow 0 1;flow 1 20;flow 2 300;flow 4 999;flow 9 500;rain 5 3;rain 23 90");
        check.due("flow(0, 0)", x.flow(0, 0), 1320);
        check.due("flow(1, 0)", x.flow(1, 0), 320);
        check.due("flow(2, 0)", x.flow(2, 0), 300);
        check.due("flow(3, 0): one at least", x.flow(3, 0), 1);
        check.due("flow(3, 23): one at least", x.flow(3, 23), 1);
        check.due("flow(0, 5): cut", x.flow(0, 5), 1716);
        check.due("flow(4, 5): cut", x.flow(4, 5), 1298);
        check.due("flow(2, 23)", x.flow(2, 23), 3000);
        check.due("flow(9, 0)", x.flow(9, 0), UNKNOWN);
        check.due("flow(12, 0)", x.flow(12, 0), UNKNOWN);
        check.due("flow(-1, 24)", x.flow(-1, 24), UNKNOWN);
        check.due("flow(0, 24)", x.flow(0, 24), OUTSIDE);
        check.due("flow(0, -1)", x.flow(0, -1), OUTSIDE);
        Check.tell(x, "rain 5 0;flow 1 21");
        check.due("flow(0, 5) told again", x.flow(0, 5), 1321);
    }

    private static void coming() {
        UpDrain x = chain("source 3 5 1000;source 4 0 77");
        comes(x, 3, 3, 0, 1000);
        comes(x, 3, 2, 29, 0);
        comes(x, 3, 2, 30, 1000);
        comes(x, 3, 1, 49, 0);
        comes(x, 3, 1, 50, 900);
        comes(x, 3, 0, 59, 0);
        comes(x, 3, 0, 60, 450);
        comes(x, 3, 0, 1439, 450);
        comes(x, 3, 4, 100, 0);
        comes(x, 2, 3, 100, 0);
        // By what is told of it, likely or not.
        comes(x, 4, 0, 0, 77);
        comes(x, 4, 4, 0, 77);
        comes(x, 1, 0, 100, 0);
        // A node is not on the way of one below it.
        Check.tell(x, "source 1 1 10");
        comes(x, 1, 2, 100, 0);
        comes(x, 1, 0, 10, 5);
    }

    private static void comingByHours() {
        UpDrain x = chain("source 2 1 100;gulp 2 1 2");
        comes(x, 2, 2, 59, 0);
        comes(x, 2, 2, 60, 100);
        comes(x, 2, 2, 179, 100);
        comes(x, 2, 2, 180, 0);
        comes(x, 2, 0, 89, 0);
        comes(x, 2, 0, 90, 45);
        comes(x, 2, 0, 209, 45);
        comes(x, 2, 0, 210, 0);
        Check.tell(x, "gulp 2 23 23");
        comes(x, 2, 2, 1379, 0);
        comes(x, 2, 2, 1380, 100);
        comes(x, 2, 0, 1409, 0);
        comes(x, 2, 0, 1410, 45);
        Check.tell(x, "gulp 2 0 0");
        comes(x, 2, 2, 0, 100);
        comes(x, 2, 2, 60, 0);
        comes(x, 2, 1, 19, 0);
        comes(x, 2, 1, 79, 90);
        comes(x, 2, 1, 80, 0);
    }

    private static void fading() {
        // Cut behind each pipe: 99 * 67 / 100 = 66.33, 66 * 67 / 100 = 44.22, 44 * 67 / 100 = 29.48.
        UpDrain x = Check.townOf("pipe 1 0 0 1 33;pipe 2 1 0 1 33;pipe 3 2 0 1 33;source 3 1 99");
        comes(x, 3, 2, 0, 66);
        comes(x, 3, 1, 0, 44);
        comes(x, 3, 0, 0, 29);
        UpDrain y = Check.longest();
        // 1000, 900, 810, 729, 656, 590, 531, 477, 429, 386, 347, 312.
        comes(y, 11, 0, 54, 0);
        comes(y, 11, 0, 55, 312);
        comes(y, 11, 1, 50, 347);
        Check.tell(x, "pipe 1 0 0 1 99;source 3 1 9999");
        comes(x, 3, 0, 0, 44);
    }

    private static void comes(UpDrain x, int source, int node, int minute, int due) {
        check.due("comes(" + source + ", " + node + ", " + minute + ", 0)", x.comes(source, node, minute, 0), due);
    }

    private static void thinning() {
        UpDrain x = chain("source 3 5 1000;flow 1 7;flow 3 300;rain 1 10");
        check.due("thin at 3", x.comes(3, 3, 0, 1), 3333);
        check.due("thin at 2", x.comes(3, 2, 30, 1), 3333);
        check.due("thin at 2, ahead", x.comes(3, 2, 29, 1), 0);
        check.due("thin at 1", x.comes(3, 1, 59, 1), 2931);
        check.due("thin at 1, rain", x.comes(3, 1, 60, 1), 1465);
        check.due("thin at 1, rain to its end", x.comes(3, 1, 119, 1), 1465);
        check.due("thin at 1, no rain", x.comes(3, 1, 120, 1), 2931);
        Check.tell(x, "source 4 1 9999");
        check.due("thin by a flow of 1", x.comes(4, 4, 0, 1), 9999000);
    }

    private static void comingRefused() {
        UpDrain x = chain("source 3 5 1000");
        check.due("comes: no source", x.comes(5, 0, 0, 0), UNKNOWN);
        check.due("comes: no node", x.comes(0, 5, 0, 0), UNKNOWN);
        check.due("comes: node -1", x.comes(0, -1, 0, 0), UNKNOWN);
        check.due("comes: source 12", x.comes(12, 0, 1440, 2), UNKNOWN);
        check.due("comes: minute -1", x.comes(3, 0, -1, 0), OUTSIDE);
        check.due("comes: minute 1440", x.comes(3, 0, 1440, 0), OUTSIDE);
        check.due("comes: what 2", x.comes(3, 0, 0, 2), OUTSIDE);
        check.due("comes: what -1", x.comes(3, 0, 0, -1), OUTSIDE);
    }

    private static void shouldSay() {
        UpDrain x = chain("source 3 5 1000;flow 3 300;cup 0 3333 0 0;cup 1 3334 0 0");
        check.due("what it tells", x.should(3, 0, 8, 0, 1), 1);
        check.due("less than it tells", x.should(3, 1, 8, 0, 1), 0);
        check.due("not above", x.should(3, 0, 16, 100, 1), 0);
        check.due("not yet", x.should(3, 0, 4, 29, 1), 0);
        check.due("now", x.should(3, 0, 4, 30, 1), 1);
        check.due("a node that is no source", x.should(1, 0, 1, 100, 1), 0);
        Check.tell(x, "source 4 0 9");
        check.due("LIKELY or not", x.should(4, 0, 16, 0, 1), 1);
        check.due("what another cup tells", x.should(4, 3, 16, 0, 1), 1);
    }

    private static void pouredTogether() {
        // Thins at minute 100: 10000 at node 3, 5000 at 2, 0 at 4.
        UpDrain x = chain("source 3 5 100;flow 3 10;flow 2 10;cup 0 5000 0 0;cup 1 7500 0 0;cup 2 3333 0 0;cup 3 3334 0 0");
        check.due("3 and 4", x.should(3, 0, 8 | 16, 100, 1), 1);
        check.due("2 and 4", x.should(3, 0, 4 | 16, 100, 1), 0);
        check.due("3 and 2", x.should(3, 1, 8 | 4, 100, 1), 1);
        check.due("3, 2 and 4", x.should(3, 0, 8 | 4 | 16, 100, 1), 1);
        check.due("3, 2 and 4, too little", x.should(3, 1, 8 | 4 | 16, 100, 1), 0);
        // 10000 by three nodes is 3333 and a third: cut.
        Check.tell(x, "pipe 5 0 0 1 0");
        check.due("cut", x.should(3, 2, 8 | 16 | 32, 100, 1), 1);
        check.due("cut, too little", x.should(3, 3, 8 | 16 | 32, 100, 1), 0);
    }

    private static void hungForHours() {
        UpDrain x = chain("source 3 5 100;gulp 3 3 3;cup 0 100 0 0;rain 3 90;flow 3 100;cup 1 1000 0 0");
        check.due("one hour", x.should(3, 0, 8, 120, 1), 0);
        check.due("two hours", x.should(3, 0, 8, 120, 2), 1);
        check.due("to the gulp", x.should(3, 0, 8, 0, 3), 0);
        check.due("into the gulp", x.should(3, 0, 8, 0, 4), 1);
        check.due("six hours", x.should(3, 0, 8, 0, 6), 1);
        check.due("behind the gulp", x.should(3, 0, 8, 240, 6), 0);
        check.due("thinned by rain", x.should(3, 1, 8, 180, 1), 0);
        // Behind half an hour of pipe what was let in in hour 3 comes in hour 4, when there is no rain.
        check.due("out of the rain", x.should(3, 1, 4, 240, 1), 1);
        // Hours do not add up.
        Check.tell(x, "source 3 5 60;cup 1 601 0 0;rain 3 0");
        check.due("hours are looked at one by one", x.should(3, 1, 8, 0, 6), 0);
    }

    private static void shouldRefused() {
        UpDrain x = chain("source 3 5 1000");
        check.due("source 5", x.should(5, 0, 1, 0, 1), UNKNOWN);
        check.due("source -1", x.should(-1, 0, 1, 0, 1), UNKNOWN);
        check.due("cup 4", x.should(3, 4, 1, 0, 1), UNKNOWN);
        check.due("cup -1", x.should(3, -1, 1, 0, 1), UNKNOWN);
        check.due("unknown ahead of outside", x.should(3, 4, 0, -1, 0), UNKNOWN);
        check.due("no set", x.should(3, 0, 0, 0, 1), OUTSIDE);
        check.due("a node that is not there", x.should(3, 0, 32 | 1, 0, 1), OUTSIDE);
        check.due("no node", x.should(3, 0, 4096, 0, 1), OUTSIDE);
        check.due("a negative set", x.should(3, 0, -1, 0, 1), OUTSIDE);
        check.due("minute -1", x.should(3, 0, 1, -1, 1), OUTSIDE);
        check.due("minute -1, n 2", x.should(3, 0, 1, -1, 2), OUTSIDE);
        check.due("minute 1440", x.should(3, 0, 1, 1440, 1), OUTSIDE);
        check.due("n 0", x.should(3, 0, 1, 0, 0), OUTSIDE);
        check.due("n 7", x.should(3, 0, 1, 0, 7), OUTSIDE);
        check.due("n least", x.should(3, 0, 1, 0, Integer.MIN_VALUE), OUTSIDE);
        check.due("beyond the day", x.should(3, 0, 1, 1380, 2), OUTSIDE);
        check.due("to the day's end", x.should(3, 0, 1, 1379, 2), 1);
        check.due("six to the day's end", x.should(3, 0, 1, 1139, 6), 1);
        check.due("six beyond", x.should(3, 0, 1, 1140, 6), OUTSIDE);
        check.due("all nodes", x.should(3, 0, 31, 100, 1), 1);
    }
}
