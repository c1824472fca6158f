/** Promises 1 to 9 and 27: a new object, the text, the town. */
public final class TownTest {
    private static final Check check = new Check();

    public static void main(String[] args) {
        aNewObject();
        check.end("TownTest");
    }

    private static void aNewObject() {
        UpDrain x = new UpDrain();
        check.due("count(0)", x.count(0), 1);
    }
}
