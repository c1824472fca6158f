/** Promises 13 to 19: found, forget, chance, two, worth, likeliest, lacks. */
public final class ThoughtTest {
    private static final int NONE = UpDrain.NONE, UNKNOWN = UpDrain.UNKNOWN, OUTSIDE = UpDrain.OUTSIDE;
    private static final int NOT = UpDrain.NOT, FULL = UpDrain.FULL;
    private static final Check check = new Check();

    public static void main(String[] args) {
        finding();
        forgetting();
        chanceOfOne();
        chanceWithWrongCups();
        chanceFollowsTheTown();
        chanceRefused();
        greatThoughts();
        chanceOfTwo();
        twoAreAdded();
        twoRefused();
        worthOfACup();
        worthRefused();
        theLikeliest();
        whatIsLacking();
        sourcesThatAreNoMore();
        check.end("ThoughtTest");
    }

    /** Leaves 1, 2, 3 at the outfall; a cup at a leaf tells of its source alone. */
    private static UpDrain star(String more) {
        return Check.townOf("pipe 1 0 0 1 0;pipe 2 0 0 1 0;pipe 3 0 0 1 0",
            "source 1 1 100;source 2 2 100;source 3 3 100;none 4", more);
    }

    private static void chance(UpDrain x, int source, long above, long below) {
        check.due("chance(" + source + ", 0)", x.chance(source, 0), above);
        check.due("chance(" + source + ", 1)", x.chance(source, 1), below);
    }

    private static void two(UpDrain x, int a, int b, long above, long below) {
        check.due("two(" + a + ", " + b + ", 0)", x.two(a, b, 0), above);
        check.due("two(" + a + ", " + b + ", 1)", x.two(a, b, 1), below);
        check.due("two(" + b + ", " + a + ", 0)", x.two(b, a, 0), above);
    }

    private static void worth(UpDrain x, int cup, int set, long above, long below) {
        check.due("worth(" + cup + ", " + set + ", 0, 1, 0)", x.worth(cup, set, 0, 1, 0), above);
        check.due("worth(" + cup + ", " + set + ", 0, 1, 1)", x.worth(cup, set, 0, 1, 1), below);
    }

    private static void finding() {
        UpDrain x = star("lift 0");
        check.due("cup 4", x.found(4, 1, 0, 1, true), UNKNOWN);
        check.due("cup -1", x.found(-1, 0, -1, 0, true), UNKNOWN);
        check.due("no set", x.found(0, 0, 0, 1, true), OUTSIDE);
        check.due("a node that is not there", x.found(0, 16, 0, 1, true), OUTSIDE);
        check.due("minute -1", x.found(0, 1, -1, 1, true), OUTSIDE);
        check.due("minute 1440", x.found(0, 1, 1440, 1, true), OUTSIDE);
        check.due("n 0", x.found(0, 1, 0, 0, true), OUTSIDE);
        check.due("n 7", x.found(0, 1, 0, 7, true), OUTSIDE);
        check.due("beyond the day", x.found(0, 1, 1380, 2, true), OUTSIDE);
        check.due("none was found", x.count(3), 0);
        for (int i = 1; i <= 10; i++) {
            check.due("found " + i, x.found(0, 1, 0, 1, true), i);
        }
        check.due("full", x.found(0, 1, 0, 1, true), FULL);
        check.due("unknown ahead of full", x.found(4, 1, 0, 1, true), UNKNOWN);
        check.due("outside ahead of full", x.found(0, 0, 0, 1, true), OUTSIDE);
        check.due("ten were found", x.count(3), 10);
    }

    private static void forgetting() {
        UpDrain x = star("lift 0");
        check.due("forget nothing", x.forget(), 0);
        x.found(0, 2, 0, 1, false);
        x.found(0, 4, 0, 1, false);
        chance(x, 3, 3, 7);
        check.due("forget", x.forget(), 2);
        check.due("count(3)", x.count(3), 0);
        chance(x, 3, 3, 10);
        check.due("found again", x.found(0, 8, 0, 1, true), 1);
        chance(x, 3, 1, 1);
    }

    private static void chanceOfOne() {
        UpDrain x = star("lift 0");
        chance(x, 1, 1, 10);
        chance(x, 2, 1, 5);
        chance(x, 3, 3, 10);
        chance(x, NONE, 2, 5);
        x.found(0, 1, 0, 1, true);
        chance(x, 1, 1, 6);
        chance(x, 2, 1, 3);
        chance(x, 3, 1, 2);
        chance(x, NONE, 0, 1);
        x.found(0, 8, 0, 1, false);
        chance(x, 1, 1, 3);
        chance(x, 3, 0, 1);
    }

    private static void chanceWithWrongCups() {
        // Should be yes: yes 7, no 3. Should be no: yes 2, no 8.
        UpDrain x = star("cup 1 1 2 3");
        x.found(1, 2, 0, 1, true);
        // Thoughts 1 * 7, 2 * 2, 3 * 2, 4 * 2: 25.
        chance(x, 1, 7, 25);
        chance(x, 2, 4, 25);
        chance(x, 3, 6, 25);
        chance(x, NONE, 8, 25);
        x.found(1, 4, 0, 1, false);
        // 7 * 8, 4 * 3, 6 * 8, 8 * 8: 180.
        chance(x, 1, 14, 45);
        chance(x, 2, 1, 15);
        chance(x, 3, 4, 15);
        chance(x, NONE, 16, 45);
    }

    /** What was found is held against the town as it is told now. */
    private static void chanceFollowsTheTown() {
        UpDrain x = star("lift 0");
        x.found(0, 2, 0, 1, true);
        chance(x, 1, 1, 1);
        Check.tell(x, "cup 0 1 5 0");
        // 1 * 10 of 1 * 10 + 9 * 5.
        chance(x, 1, 2, 11);
        Check.tell(x, "pipe 3 1 0 1 0;cup 0 1 0 0");
        chance(x, 1, 1, 4);
        chance(x, 3, 3, 4);
        Check.tell(x, "source 3 0 100");
        check.due("no SOURCE now", x.chance(3, 0), UNKNOWN);
        chance(x, 1, 1, 1);
    }

    private static void chanceRefused() {
        UpDrain x = star("source 0 0 100");
        check.due("a node that is no SOURCE", x.chance(0, 0), UNKNOWN);
        check.due("a node that is not there", x.chance(4, 0), UNKNOWN);
        check.due("chance(12, 0)", x.chance(12, 0), UNKNOWN);
        check.due("chance(-2, 0)", x.chance(-2, 0), UNKNOWN);
        check.due("chance(-2, 2)", x.chance(-2, 2), UNKNOWN);
        check.due("chance(1, 2)", x.chance(1, 2), OUTSIDE);
        check.due("chance(1, -1)", x.chance(1, -1), OUTSIDE);
        check.due("chance(-1, 2)", x.chance(-1, 2), OUTSIDE);
        x.found(0, 2, 0, 1, true);
        x.found(0, 2, 0, 1, false);
        check.due("all THOUGHT is 0", x.chance(1, 0), NOT);
        check.due("of none too", x.chance(NONE, 1), NOT);
        check.due("unknown ahead of not", x.chance(0, 0), UNKNOWN);
        check.due("outside ahead of not", x.chance(1, 2), OUTSIDE);
        UpDrain y = Check.townOf("none 5");
        chance(y, NONE, 1, 1);
    }

    /** Ten cups found: the thoughts are far above what an int holds. */
    private static void greatThoughts() {
        UpDrain x = Check.townOf("pipe 1 0 0 1 0;pipe 2 0 0 1 0", "source 1 97 1;source 2 99 1;source 0 98 1;cup 0 1 0 1;cup 1 1 0 0");
        for (int i = 0; i < 10; i++) {
            x.found(i == 0 ? 1 : 0, 1, 0, 1, true);
        }
        chance(x, 1, 97, 294);
        chance(x, 2, 33, 98);
        two(x, 1, 2, 97 * 99, 97 * 99 + 97 * 98 + 99 * 98);
        x.forget();
        Check.tell(x, "cup 0 1 1 0");
        for (int i = 0; i < 10; i++) {
            x.found(0, 2, 0, 1, false);
        }
        // Source 1 should make it yes, and yes is never told as no: 0. The others: 9 to the tenth each.
        chance(x, 1, 0, 1);
        chance(x, 2, 99, 197);
        x.forget();
        Check.tell(x, "cup 0 1 0 1");
        for (int i = 0; i < 10; i++) {
            x.found(0, 2, 0, 1, false);
        }
        // 97 * 1 against (98 + 99) * 10 to the tenth; 3 divides 99 and all together.
        chance(x, 1, 97, 1970000000097L);
        chance(x, 2, 330000000000L, 656666666699L);
    }

    private static void chanceOfTwo() {
        UpDrain x = star("cup 1 1 2 3");
        two(x, 1, 2, 2, 11);
        two(x, 1, 3, 3, 11);
        two(x, 2, 3, 6, 11);
        x.found(1, 2, 0, 1, true);
        // 2 * 7, 3 * 7, 6 * 2: 47.
        two(x, 1, 2, 14, 47);
        two(x, 1, 3, 21, 47);
        two(x, 2, 3, 12, 47);
        x.found(0, 8, 0, 1, false);
        two(x, 1, 2, 1, 1);
        two(x, 2, 3, 0, 1);
    }

    private static void twoAreAdded() {
        // Two times 0.5 by one together are 1; and 1000 * (1 + 1) by 3 is 666, not 333 + 333.
        UpDrain x = Check.townOf("pipe 1 0 0 1 0;pipe 2 0 0 1 0;pipe 3 0 0 1 0",
            "source 1 1 1;source 2 1 1;source 3 1 2;flow 0 3;cup 0 667 0 0;cup 1 666 0 0;cup 2 1000 0 0");
        x.found(1, 1, 0, 1, true);
        two(x, 1, 2, 1, 3);
        chance(x, 3, 1, 1);
        x.found(0, 1, 0, 1, false);
        two(x, 1, 2, 1, 1);
        two(x, 1, 3, 0, 1);
        x.forget();
        x.found(2, 1, 0, 1, true);
        two(x, 1, 2, 0, 1);
        two(x, 1, 3, 1, 2);
        check.due("no one can have made it", x.chance(1, 0), NOT);
    }

    private static void twoRefused() {
        UpDrain x = star("source 0 0 100");
        check.due("one twice", x.two(1, 1, 0), UNKNOWN);
        check.due("no SOURCE", x.two(1, 0, 0), UNKNOWN);
        check.due("no SOURCE first", x.two(0, 1, 0), UNKNOWN);
        check.due("none", x.two(NONE, 1, 0), UNKNOWN);
        check.due("none second", x.two(1, NONE, 0), UNKNOWN);
        check.due("12", x.two(1, 12, 0), UNKNOWN);
        check.due("unknown ahead of outside", x.two(1, 1, 2), UNKNOWN);
        check.due("part 2", x.two(1, 2, 2), OUTSIDE);
        check.due("part -1", x.two(1, 2, -1), OUTSIDE);
        x.found(0, 2, 0, 1, true);
        x.found(0, 2, 0, 1, false);
        check.due("all THOUGHT of pairs is 0", x.two(1, 2, 0), NOT);
        check.due("outside ahead of not", x.two(1, 2, 2), OUTSIDE);
        // None is not thought of with two.
        x.forget();
        x.found(0, 1, 0, 1, false);
        check.due("none may be", x.chance(NONE, 0), 1);
        check.due("no pair may be", x.two(1, 2, 0), NOT);
    }

    private static void worthOfACup() {
        UpDrain x = star("cup 1 1 2 3");
        worth(x, 0, 2, 1, 10);
        worth(x, 0, 1, 3, 5);
        // 1 * 7 + 9 * 2 by 10 * 10.
        worth(x, 1, 2, 1, 4);
        x.found(0, 1, 0, 1, true);
        // None can't be now: 1 * 7 + 5 * 2 by 6 * 10.
        worth(x, 1, 2, 17, 60);
        // The time of it: behind half an hour of pipe nothing has come yet.
        Check.tell(x, "pipe 1 0 30 1 0");
        check.due("not yet", x.worth(0, 1, 29, 1, 0), 1);
        x.forget();
        check.due("5 of 10", x.worth(0, 1, 29, 1, 1), 2);
        check.due("6 of 10", x.worth(0, 1, 30, 1, 1), 5);
        check.due("6 of 10, an hour later", x.worth(0, 1, 29, 2, 1), 5);
    }

    private static void worthRefused() {
        UpDrain x = star("lift 0");
        check.due("cup 4", x.worth(4, 0, 0, 1, 0), UNKNOWN);
        check.due("cup -1", x.worth(-1, 1, 0, 1, 0), UNKNOWN);
        check.due("no set", x.worth(0, 0, 0, 1, 0), OUTSIDE);
        check.due("a node that is not there", x.worth(0, 16, 0, 1, 0), OUTSIDE);
        check.due("minute", x.worth(0, 1, 1440, 1, 0), OUTSIDE);
        check.due("n", x.worth(0, 1, 0, 7, 0), OUTSIDE);
        check.due("beyond the day", x.worth(0, 1, 1380, 2, 0), OUTSIDE);
        check.due("part 2", x.worth(0, 1, 0, 1, 2), OUTSIDE);
        check.due("part -1", x.worth(0, 1, 0, 1, -1), OUTSIDE);
        x.found(0, 2, 0, 1, true);
        worth(x, 0, 2, 1, 1);
        worth(x, 0, 4, 0, 1);
        x.found(0, 2, 0, 1, false);
        check.due("all THOUGHT is 0", x.worth(0, 1, 0, 1, 0), NOT);
        check.due("outside ahead of not", x.worth(0, 1, 0, 1, 2), OUTSIDE);
        check.due("no more was found", x.count(3), 2);
    }

    private static void theLikeliest() {
        UpDrain x = star("lift 0");
        check.due("none is likelier", x.likeliest(), NONE);
        Check.tell(x, "none 3");
        check.due("none is as likely", x.likeliest(), NONE);
        Check.tell(x, "none 2");
        check.due("the likeliest", x.likeliest(), 3);
        Check.tell(x, "source 2 3 100");
        check.due("of several the least", x.likeliest(), 2);
        x.found(0, 4, 0, 1, false);
        check.due("the other one", x.likeliest(), 3);
        x.found(0, 2, 0, 1, true);
        check.due("what was found", x.likeliest(), 1);
        x.found(0, 2, 0, 1, false);
        check.due("all THOUGHT is 0", x.likeliest(), NONE);
        UpDrain y = Check.townOf("pipe 3 0 0 1 0");
        check.due("no SOURCE", y.likeliest(), NONE);
        Check.tell(y, "source 3 1 0");
        check.due("one SOURCE", y.likeliest(), 3);
    }

    private static void whatIsLacking() {
        UpDrain x = Check.townOf("pipe 1 0 30 1 50;pipe 2 1 0 1 0;pipe 3 0 0 1 0;cup 0 100 9 9;flow 0 999",
            "source 3 9 9999;gulp 3 5 5");
        check.due("all nodes that are there", x.lacks(0), 15);
        x.found(0, 1, 0, 1, true);
        // At minute 0 nothing from 1 or 2 is at the outfall; wrong tenths do not count.
        check.due("from 0 and 3", x.lacks(100), 9);
        check.due("too weak", x.lacks(99), 0);
        x.forget();
        x.found(0, 1, 30, 1, true);
        check.due("half is gone on the way", x.lacks(199), 9);
        check.due("strong enough", x.lacks(200), 15);
        x.found(0, 4, 30, 1, false);
        check.due("not from 2", x.lacks(200), 11);
        x.found(0, 2, 30, 1, true);
        check.due("from 1", x.lacks(200), 2);
        x.found(0, 2, 1439, 1, true);
        check.due("all day, though told otherwise", x.lacks(200), 2);
        x.found(0, 8, 30, 1, true);
        check.due("from nowhere", x.lacks(200), 0);
        check.due("lacks(9999)", x.lacks(9999), 0);
        check.due("lacks(10000)", x.lacks(10000), OUTSIDE);
        check.due("lacks(-1)", x.lacks(-1), OUTSIDE);
    }

    private static void sourcesThatAreNoMore() {
        UpDrain x = Check.townOf("pipe 1 0 0 1 0;source 0 5 100;source 1 9 100;none 1");
        check.due("the likeliest", x.likeliest(), 1);
        worth(x, 0, 1, 14, 15);
        Check.tell(x, "source 1 0 100");
        check.due("the likeliest of those that are", x.likeliest(), 0);
        worth(x, 0, 1, 5, 6);
        worth(x, 0, 2, 0, 1);
        check.due("no two", x.two(0, 1, 0), UNKNOWN);
        Check.tell(x, "source 1 1 100;none 0");
        worth(x, 0, 2, 1, 6);
        two(x, 0, 1, 1, 1);
    }
}
