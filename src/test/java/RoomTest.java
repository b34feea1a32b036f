import java.lang.management.ManagementFactory;

/** All calls of a run live in one room: an object is made once, and its calls make nothing more. */
public final class RoomTest {
    private static final int CALLS = 512;

    private static long made() {
        com.sun.management.ThreadMXBean threads = (com.sun.management.ThreadMXBean) ManagementFactory.getThreadMXBean();
        return threads.getThreadAllocatedBytes(Thread.currentThread().getId());
    }

    /** One FIELD with every DEED on it, a long chain, and a law that searches: nothing is dearer. */
    private static OughtKnown dear() {
        OughtKnown x = new OughtKnown();
        for (int i = 0; i < 10; i++) {
            x.person(i);
        }
        x.field(0);
        for (int i = 0; i < 16; i++) {
            x.deed(i % 3, 0, i % 9, (i + 1) % 9, i);
            x.enter(i, i, -1, -1);
        }
        x.letters('b' | 'c' << 8 | 'l' << 16 | 'g' << 24);
        x.law();
        return x;
    }

    private static long ask(OughtKnown x, int calls) {
        long sum = 0;
        for (int i = 0; i < calls; i += 8) {
            sum += x.safe(0) + x.hangs(0, 0, i % 3) + x.digest() + x.lost(0, 0);
            sum += x.debts(0, 0, 10) + x.image() + x.restore() + x.wild(0);
        }
        return sum;
    }

    public static void main(String[] args) {
        ask(dear(), CALLS);
        made();
        long before = made();
        OughtKnown x = dear();
        long object = made() - before;
        before = made();
        long sum = ask(x, CALLS);
        long calls = made() - before;
        System.out.println("an object makes " + object + " bytes, " + CALLS + " calls make " + calls + " (sum " + sum + ")");
        if (object > 16000 || calls > 2000) {
            System.exit(1);
        }
    }
}
