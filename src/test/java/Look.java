import java.util.ArrayList;
import java.util.List;

/** All that can be seen of an object, in some 360 calls; its text is done and what was found forgotten by it. */
final class Look {
    private static final int NODES = 12;
    private final UpDrain x;
    private final List<String> seen = new ArrayList<>();

    private Look(UpDrain x) {
        this.x = x;
    }

    static List<String> at(UpDrain x) {
        Look look = new Look(x);
        look.atCounts();
        look.atTown();
        look.atWater();
        look.atThoughts();
        look.atSearches();
        look.atText();
        return look.seen;
    }

    private void see(String call, long answer) {
        seen.add(call + " answered " + answer);
    }

    private void atCounts() {
        for (int what = 0; what < 7; what++) {
            see("count(" + what + ")", x.count(what));
        }
    }

    private void atTown() {
        for (int node = 0; node < NODES; node++) {
            for (int what = 0; what < 9; what++) {
                see("of(" + node + ", " + what + ")", x.of(node, what));
            }
            see("above(" + node + ")", x.above(node));
            see("walk(0, " + node + ")", x.walk(0, node));
            see("walk(" + node + ", 11)", x.walk(node, 11));
        }
        for (int cup = 0; cup < 4; cup++) {
            for (int what = 0; what < 3; what++) {
                see("cup(" + cup + ", " + what + ")", x.cup(cup, what));
            }
        }
    }

    private void atWater() {
        for (int hour = 0; hour < 24; hour++) {
            see("flow(0, " + hour + ")", x.flow(0, hour));
        }
        for (int node = 0; node < NODES; node++) {
            see("comes(" + node + ", 0, 200, 1)", x.comes(node, 0, 200, 1));
            see("comes(" + node + ", " + node + ", 1439, 0)", x.comes(node, node, 1439, 0));
        }
        for (int cup = 0; cup < 4; cup++) {
            see("should(11, " + cup + ", 1, 0, 6)", x.should(11, cup, 1, 0, 6));
        }
    }

    private void atThoughts() {
        for (int source = -1; source < NODES; source++) {
            see("chance(" + source + ", 0)", x.chance(source, 0));
            see("chance(" + source + ", 1)", x.chance(source, 1));
            see("two(" + source + ", 11, 0)", x.two(source, 11, 0));
            see("two(2, " + source + ", 1)", x.two(2, source, 1));
        }
        for (int cup = 0; cup < 4; cup++) {
            see("worth(" + cup + ", 1, 60, 2, 0)", x.worth(cup, 1, 60, 2, 0));
            see("worth(" + cup + ", 1, 60, 2, 1)", x.worth(cup, 1, 60, 2, 1));
        }
        see("likeliest()", x.likeliest());
        see("lacks(0)", x.lacks(0));
        see("lacks(900)", x.lacks(900));
    }

    private void atSearches() {
        for (int part = 0; part < 2; part++) {
            see("fewest(" + part + ")", x.fewest(part));
            see("mean(" + part + ")", x.mean(part));
            see("row(0x10, 2, -1, " + part + ")", x.row(0x10, 2, -1, part));
            see("row(0x10, 2, 9, " + part + ")", x.row(0x10, 2, 9, part));
        }
        for (int node = 0; node < NODES; node++) {
            see("soon(" + node + ", 0)", x.soon(node, 0));
            see("answers(" + node + ", 0x10, 2, -1)", x.answers(node, 0x10, 2, -1));
        }
        see("hang(0)", x.hang(0));
        see("hang(8)", x.hang(8));
        for (int what = 0; what < 4; what++) {
            see("day(1, 1, " + what + ")", x.day(1, 1, what));
            see("day(40000, 2, " + what + ")", x.day(40000, 2, what));
        }
    }

    /** The bytes of the text are seen by where its fault is, and by what its lines do. */
    private void atText() {
        see("fault()", x.fault());
        see("town()", x.town());
        atCounts();
        see("flow(0, 0) then", x.flow(0, 0));
        see("above(0) then", x.above(0));
        see("erase()", x.erase());
        see("forget()", x.forget());
    }
}
