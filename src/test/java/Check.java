import java.util.List;

/** What the tests share: answers held against those that are due, and texts told to a town. */
final class Check {
    private int checks = 0;
    private int wrong = 0;
    private String sentence = "";

    /** The sentence that the answers from here on test: of a promise by its number, or of the terms (0). */
    void says(int promise, String quote) {
        sentence = (promise == 0 ? "terms" : "promise " + promise) + ", '" + quote + "': ";
    }

    void due(String call, long got, long want) {
        checks++;
        if (got != want) {
            wrong++;
            System.out.println(sentence + call + " answered " + got + ", due is " + want);
        }
    }

    /** What can be seen of two objects is alike. */
    void alike(String behind, UpDrain one, UpDrain other) {
        List<String> seen = Look.at(one);
        List<String> due = Look.at(other);
        for (int i = 0; i < due.size(); i++) {
            checks++;
            if (!seen.get(i).equals(due.get(i))) {
                wrong++;
                System.out.println(sentence + "behind " + behind + " " + seen.get(i) + ", due is " + due.get(i));
            }
        }
    }

    /** Prints what was wrong in all, and leaves with exit code 1 if anything was. */
    void end(String name) {
        System.out.println(name + ": " + checks + " answers, " + wrong + " not as due");
        if (wrong != 0 || checks == 0) {
            System.exit(1);
        }
    }

    /** 0 - 1 - .. - 11, each a source of LIKELY 1: five minutes, three to walk, a tenth gone. */
    static UpDrain longest() {
        UpDrain x = townOf("source 0 1 1000");
        for (int node = 1; node < 12; node++) {
            tell(x, "pipe " + node + " " + (node - 1) + " 5 3 10;source " + node + " 1 1000");
        }
        return x;
    }

    /** All of 1 .. 11 at the outfall, each a source of LIKELY 1. */
    static UpDrain widest() {
        UpDrain x = townOf("source 0 1 1000");
        for (int node = 1; node < 12; node++) {
            tell(x, "pipe " + node + " 0 5 3 10;source " + node + " 1 1000");
        }
        return x;
    }

    static UpDrain townOf(String... texts) {
        UpDrain x = new UpDrain();
        for (String text : texts) {
            tell(x, text);
        }
        return x;
    }

    /** Writes a text of one town; a text that has a fault is an error of the test itself. */
    static void tell(UpDrain x, String text) {
        write(x, text);
        if (x.town() < 0) {
            throw new IllegalStateException("a fault at " + x.fault() + " of: " + text);
        }
    }

    static void write(UpDrain x, String text) {
        for (int at = 0; at < text.length(); at += 8) {
            int n = Math.min(8, text.length() - at);
            long bytes = 0;
            for (int i = 0; i < n; i++) {
                bytes |= (long) text.charAt(at + i) << 8 * i;
            }
            x.write(bytes, n);
        }
    }

    /** Where the text's fault is. */
    static int faultOf(String text) {
        UpDrain x = new UpDrain();
        write(x, text);
        return x.fault();
    }
}
