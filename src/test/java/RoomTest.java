import java.lang.management.ManagementFactory;

/** The room of a run: calls make no objects but what they throw, and a new object has few elements. */
public final class RoomTest {
    private static final com.sun.management.ThreadMXBean BEAN =
            (com.sun.management.ThreadMXBean) ManagementFactory.getThreadMXBean();

    public static void main(String[] args) {
        all(filled());
        Counted x = filled();
        long before = allocated();
        all(x);
        long made = allocated() - before;
        Checks.due("bytes that the calls made: " + made, made < 2000, true);
        before = allocated();
        ObsMessages y = new ObsMessages();
        made = allocated() - before;
        Checks.due("bytes of a new object: " + made, made < 100000 && y.fault(0) == 0, true);
        Checks.end("RoomTest");
    }

    private static Counted filled() {
        Counted x = Make.template(462, 216, 3, 0, 226, 100, 460, 504, 520);
        Make.fill(x, 0, 4, 5);
        for (int s = 0; s < 8; s++) {
            Make.values(x, s, 3, s % 3, ObsMessages.MISSING, s % 3, ObsMessages.MISSING, s % 3);
            for (int i = 47; i < 51; i++) {
                x.put(s, i, 1);
            }
        }
        for (int i = 0; i < 64; i++) {
            x.point(i, i * i * 7919 % 1000);
        }
        return x;
    }

    private static long allocated() {
        return BEAN.getThreadAllocatedBytes(Thread.currentThread().getId());
    }

    private static void all(Counted x) {
        long sum = x.compile() + x.fields(3) + x.field(2, 9, 2) + x.reference(1, 5) + x.find(0, 4, 3, 0);
        sum += x.write(8, false);
        sum += x.write(8, true);
        for (int i = 0; x.byteAt(i) != -1; i++) {
            sum += x.feed(x.byteAt(i), 1);
        }
        sum += x.read();
        sum += x.pack(9) + x.group(0) + x.packedAt(3);
        if (sum == 0) {
            System.out.println("never");
        }
    }
}
