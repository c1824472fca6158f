import java.lang.management.ManagementFactory;

/** An object's 512 calls of any kind, in the greatest town, make few objects: all rows are used again. */
public final class RoomTest {
    private static final long MOST_BYTES = 1000000;
    private static final Check check = new Check();

    public static void main(String[] args) {
        run(0);
        for (int kind = 0; kind < 11; kind++) {
            long before = allocated();
            run(kind);
            long made = allocated() - before;
            check.due("bytes made by calls of kind " + kind + ": " + made + ", within bounds", made <= MOST_BYTES ? 1 : 0, 1);
        }
        check.end("RoomTest");
    }

    private static long allocated() {
        return ((com.sun.management.ThreadMXBean) ManagementFactory.getThreadMXBean()).getCurrentThreadAllocatedBytes();
    }

    private static void run(int kind) {
        UpDrain x = new UpDrain();
        for (int node = 1; node < 12; node++) {
            Check.tell(x, "pipe " + node + " 0 5 5 5;source " + node + " " + node + " 999;lift 5;none 5");
        }
        Check.tell(x, "source 0 9 9;cup 0 1 1 1");
        for (int i = 0; i < 130; i++) {
            call(x, kind, i);
        }
    }

    private static void call(UpDrain x, int kind, int i) {
        switch (kind) {
            case 0: x.mean(i & 1); break;
            case 1: x.soon(i % 12, i & 1); break;
            case 2: x.day(i, 0, i & 3); break;
            case 3: x.hang(i % 20); break;
            case 4: x.row(0x12345678, 8, i % 9 - 1, i & 1); break;
            case 5: x.found(0, 4095, i, 6, true); x.two(i % 12, 3, 0); break;
            case 6: x.worth(0, 4095, i, 6, 0); break;
            case 7: x.lacks(i); break;
            case 8: x.fault(); break;
            case 9: x.write('l' | 'i' << 8 | 'f' << 16 | (long) 't' << 24 | (long) '5' << 32, 5); x.town(); x.soon(0, 0); break;
            default: x.likeliest(); x.chance(3, 0); x.forget(); break;
        }
    }
}
