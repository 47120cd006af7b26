import java.util.Arrays;
import java.util.function.Consumer;
import java.util.function.Supplier;

/**
 * Refused calls of every kind: which exception, and that nothing else is changed. Each is made on one of two objects
 * that had the same calls; then both are asked for all that can be seen of them.
 */
public final class RefusedTest {
    private static final String ILLEGAL = "IllegalArgumentException";
    private static final String STATE = "IllegalStateException";
    private static final String BOUNDS = "IndexOutOfBoundsException";
    private static final long MISSING = ObsMessages.MISSING;
    private static final int[] FAR = {Integer.MIN_VALUE, Integer.MAX_VALUE};
    /** A message for the template of rich(): values 9, -, 2, 1, -2, 1, 0, 5. */
    private static final int[] SENT = Make.bytesOf(66, 1,
            "001001 1 00000000000000000101 000001 0000000000011 1 0 00000000000000001000");
    private static final int FED = 6;

    public static void main(String[] args) {
        tables();
        lists();
        values();
        compiled();
        walked();
        written();
        fed();
        read();
        points();
        packed();
        questions();
        Checks.end("RefusedTest");
    }

    /** Something of everything: entries, lists, values, a message, half a message on the tape, a FAULT, a grid. */
    private static Counted rich() {
        Counted x = Make.template(3, 100, 216, 3, 4, 502, 520);
        Make.fill(x, 0, 461, 5, 460);
        Make.fill(x, 15, 3, 3, 3, 3, 3, 3, 3, 3);
        x.element(2, 4, 1, -5, 13);
        x.element(-1, 3, 0, 0, 6);
        x.version(2);
        for (int s = 0; s < 8; s++) {
            Make.values(x, s, s, 0, 7 + s, 1, 20, 1, 0, 33);
        }
        x.put(7, 99, 123);
        x.write(3, true);
        Make.feed(x, Arrays.copyOf(SENT, FED));
        x.point(0, 10);
        x.point(5, 500);
        x.point(63, -70);
        x.pack(4);
        x.point(5, 600);
        x.put(7, 0, 63);
        Checks.of(() -> x.write(8, false));
        return x;
    }

    /** The same, but with a FAULT in the template. */
    private static Counted richWithFault(int... more) {
        Counted x = rich();
        Make.fill(x, -1, more);
        return x;
    }

    private static int[] rest() {
        return Arrays.copyOfRange(SENT, FED, SENT.length);
    }

    private static String told(Counted x) {
        StringBuilder s = new StringBuilder("message " + Make.message(x));
        for (int subset = 0; subset < 8; subset++) {
            s.append("\nvalues ").append(Make.row(x, subset, 10)).append(" .. ").append(x.get(subset, 99));
        }
        s.append("\npacked ").append(x.packedAt(0)).append(' ').append(x.packedAt(5)).append(' ').append(x.packedAt(63));
        for (int what = -2; what < 4; what++) {
            s.append(' ').append(x.group(what));
        }
        for (int i = 0; i < 9; i++) {
            s.append("\nfield ").append(x.field(1, i, 1)).append(' ').append(x.field(1, i, 2)).append(' ')
                    .append(x.reference(1, i));
        }
        return s.append("\nentries ").append(x.drop(0, 4)).append(x.drop(1, 4)).append(x.drop(3, 4)).toString();
    }

    /** What is told last, as it changes something: the tape, the points, the lists. */
    private static String spent(Counted x) {
        StringBuilder s = new StringBuilder("tape ");
        Make.feed(x, rest());
        s.append(Checks.of(() -> x.read())).append(' ').append(Make.fault(x)).append(' ');
        s.append(Make.row(x, 0, 10)).append("\npoints ").append(x.pack(31)).append(' ').append(x.packedAt(0));
        s.append(' ').append(x.packedAt(5)).append(' ').append(x.packedAt(63)).append(' ').append(x.group(-1));
        for (int list : new int[] {-1, 0, 1, 14}) {
            s.append("\nlist ").append(x.append(list, 0));
        }
        return s.append("\ncompiled ").append(Checks.of(() -> x.compile())).append(' ').append(Make.fault(x)).toString();
    }

    /** A refused call that leaves all as it was, its FAULT too. */
    private static void leavesAll(String what, Supplier<Counted> maker, Consumer<Counted> call, String exception) {
        Counted x = maker.get();
        Counted twin = maker.get();
        Checks.fails(what, () -> call.accept(x), exception);
        Checks.due(what + ", fault", Make.fault(x), Make.fault(twin));
        Checks.due(what + ", nothing is changed", told(x), told(twin));
        Checks.due(what + ", nothing is changed", spent(x), spent(twin));
    }

    /** A refused call that leaves all but the FAULT. */
    private static void leavesAllBut(String what, Supplier<Counted> maker, Consumer<Counted> call, String exception,
            String fault) {
        Counted x = maker.get();
        Counted twin = maker.get();
        Checks.fails(what, () -> call.accept(x), exception);
        Checks.due(what + ", fault", Make.fault(x), fault);
        Checks.due(what + ", nothing else is changed", told(x), told(twin));
        Checks.due(what + ", nothing else is changed", spent(x), spent(twin));
    }

    private static void tables() {
        int[][] wrong = {{-2, 4, 0, 0, 8}, {4, 4, 0, 0, 8}, {2, -1, 0, 0, 8}, {2, 64, 0, 0, 8}, {2, 4, -9, 0, 8},
                {2, 4, 9, 0, 8}, {2, 4, 0, -1000000001, 8}, {2, 4, 0, 1000000001, 8}, {2, 4, 0, 0, 0}, {2, 4, 0, 0, 33},
                {-1, 3, 9, 0, 8}, {-1, 64, 0, 0, 8}, {-1, -1, 0, 0, 8}, {3, 64, 0, 0, 8}};
        for (int[] w : wrong) {
            leavesAll("element " + Arrays.toString(w), RefusedTest::rich,
                    x -> x.element(w[0], w[1], w[2], w[3], w[4]), ILLEGAL);
        }
        for (int n : new int[] {-1, 4, FAR[0], FAR[1]}) {
            leavesAll("version " + n, RefusedTest::rich, x -> x.version(n), ILLEGAL);
        }
    }

    private static void lists() {
        for (int list : new int[] {-2, 16, FAR[0], FAR[1]}) {
            leavesAll("append to " + list, RefusedTest::rich, x -> x.append(list, 3), ILLEGAL);
            leavesAll("clear " + list, RefusedTest::rich, x -> x.clear(list), ILLEGAL);
        }
        for (int d : new int[] {-1, 64, 99, 116, 215, 344, 399, 432, 456, 469, 488, 500, 517, 519, 521}) {
            leavesAll("append " + d, RefusedTest::rich, x -> x.append(-1, d), ILLEGAL);
            leavesAll("append " + d + " to a full one", RefusedTest::rich, x -> x.append(15, d), ILLEGAL);
        }
        leavesAll("append to a full one", RefusedTest::rich, x -> x.append(15, 3), STATE);
    }

    private static void values() {
        for (int[] w : new int[][] {{-1, 0}, {8, 0}, {0, -1}, {0, 100}, {7, 100}, {8, 100}, {FAR[0], 0}, {0, FAR[1]}}) {
            leavesAll("put " + w[0] + ", " + w[1], RefusedTest::rich, x -> x.put(w[0], w[1], 5), BOUNDS);
            leavesAll("get " + w[0] + ", " + w[1], RefusedTest::rich, x -> x.get(w[0], w[1]), BOUNDS);
        }
    }

    /** "IllegalArgumentException: a FAULT 1 .. 5. (Nothing else is changed.)" */
    private static void compiled() {
        int[][] more = {{63}, {3, 101}, {217}, {400}, {431, 2}};
        String[] faults = {"1 at 7", "1 at 8", "3 at 7", "4 at 7", "5 at 8"};
        for (int i = 0; i < more.length; i++) {
            int[] m = more[i];
            leavesAllBut("compile, " + faults[i], () -> richWithFault(m), x -> x.compile(), ILLEGAL, faults[i]);
            leavesAllBut("fields, " + faults[i], () -> richWithFault(m), x -> x.fields(0), ILLEGAL, faults[i]);
            leavesAllBut("write, " + faults[i], () -> richWithFault(m), x -> x.write(1, false), ILLEGAL, faults[i]);
        }
        Supplier<Counted> within = () -> {
            Counted x = richWithFault(101);
            x.append(1, 101);
            return x;
        };
        leavesAllBut("compile, a sequence within itself", within, x -> x.compile(), ILLEGAL, "2 at 7");
    }

    private static void walked() {
        for (int subset : new int[] {-1, 8, FAR[0], FAR[1]}) {
            leavesAllBut("fields of " + subset, RefusedTest::rich, x -> x.fields(subset), BOUNDS, "0 at -1");
        }
        leavesAllBut("fields, FAULT 6", () -> richWith(2, 3, 31), x -> x.fields(2), ILLEGAL, "6 at 203");
        leavesAllBut("fields, FAULT 7", () -> richWithFault(520), x -> x.fields(7), ILLEGAL, "7 at 708");
        leavesAllBut("fields, FAULT 8", () -> richWithFault(231, 115), x -> x.fields(1), ILLEGAL, "8 at 200");
    }

    private static Counted richWith(int subset, int i, long v) {
        Counted x = rich();
        x.put(subset, i, v);
        return x;
    }

    /** "IllegalArgumentException: n is not 1 .. 8 (FAULT 0), or a FAULT; the message before stays." */
    private static void written() {
        for (int n : new int[] {0, -1, 9, FAR[0], FAR[1]}) {
            leavesAllBut("write " + n, RefusedTest::rich, x -> x.write(n, true), ILLEGAL, "0 at -1");
        }
        leavesAllBut("write, FAULT 6", () -> richWith(2, 3, 31), x -> x.write(3, true), ILLEGAL, "6 at 203");
        leavesAllBut("write, FAULT 7", () -> richWithFault(520), x -> x.write(3, false), ILLEGAL, "7 at 8");
        leavesAllBut("write, FAULT 8", () -> richWithFault(231, 115), x -> x.write(1, false), ILLEGAL, "8 at 100");
        leavesAllBut("write, FAULT 9", () -> richWith(1, 0, -1), x -> x.write(2, false), ILLEGAL, "9 at 100");
        leavesAllBut("write, FAULT 10", () -> richWith(1, 6, 1), x -> x.write(2, true), ILLEGAL, "10 at 106");
    }

    /** "NONE, and nothing comes, for another n, or more than 1000." */
    private static void fed() {
        for (int n : new int[] {0, -1, 5, FAR[0], FAR[1]}) {
            Counted x = rich();
            Counted twin = rich();
            Checks.due("feed " + n, x.feed(-1, n), -1);
            Checks.due("feed " + n + ", nothing comes", told(x) + spent(x), told(twin) + spent(twin));
        }
    }

    /** "IllegalArgumentException: a FAULT; all values stay", and the tape is empty then. */
    private static void read() {
        Counted whole = rich();
        Make.feed(whole, rest());
        Checks.due("the whole message", () -> whole.read(), 1);
        Checks.due("its values", Make.row(whole, 0, 9), "9 - 2 1 -2 1 0 5 -");
        readRefused("half a message", "11 at -1");
        readRefused("a byte too few", "11 at -1", Arrays.copyOf(rest(), rest().length - 1));
        readRefused("a byte too many", "11 at -1", Arrays.copyOf(rest(), rest().length + 1));
        int[] behind = rest();
        behind[behind.length - 1] |= 1;
        readRefused("a bit behind the last", "11 at -1", behind);
        int[] counts0 = rest();
        counts0[2] = 0;
        readRefused("COUNT 0", "6 at 3", counts0);
        int[] bits0 = rest();
        bits0[3] = 0;
        bits0[4] = 0;
        readRefused("no BIT with 1", "7 at 7", bits0);
    }

    private static void readRefused(String what, String fault, int... rest) {
        Counted x = rich();
        Make.feed(x, rest);
        Checks.due(what, () -> x.read(), ILLEGAL);
        Checks.due(what + ", fault", Make.fault(x), fault);
        Checks.due(what + ", nothing else is changed", told(x), told(rich()));
        Checks.due(what + ", the tape is empty", x.feed(0, 1), 1);
    }

    private static void points() {
        for (int i : new int[] {-1, 64, FAR[0], FAR[1]}) {
            leavesAll("point " + i, RefusedTest::rich, x -> x.point(i, 3), BOUNDS);
            leavesAll("point " + i + ", no number", RefusedTest::rich, x -> x.point(i, 1L << 40), BOUNDS);
        }
        for (long v : new long[] {2000000001L, -2000000001L, MISSING + 1, MISSING - 1, Long.MIN_VALUE, Long.MAX_VALUE}) {
            leavesAll("point, " + v, RefusedTest::rich, x -> x.point(5, v), ILLEGAL);
            leavesAll("point, " + v, RefusedTest::rich, x -> x.point(6, v), ILLEGAL);
        }
    }

    private static void packed() {
        for (int bits : new int[] {0, -1, 32, FAR[0], FAR[1]}) {
            leavesAll("pack " + bits, RefusedTest::rich, x -> x.pack(bits), ILLEGAL);
        }
        Counted x = rich();
        Counted twin = rich();
        for (int i : new int[] {0, 5, 63}) {
            x.point(i, MISSING);
            twin.point(i, MISSING);
        }
        Checks.due("pack, all MISSING", () -> x.pack(4), STATE);
        Checks.due("pack, all MISSING, nothing is changed", Make.fault(x) + told(x), Make.fault(twin) + told(twin));
    }

    /** Questions about what is not there change nothing either. */
    private static void questions() {
        Counted x = rich();
        Counted twin = rich();
        for (int far : new int[] {-1, -2, 8, 100, FAR[0], FAR[1]}) {
            x.field(far, 0, 0);
            x.field(0, far, 0);
            x.field(0, 0, far);
            x.reference(far, 0);
            x.reference(0, far);
            x.find(far, 3, -1, 0);
            x.find(0, far, far, far);
            x.byteAt(far);
            x.packedAt(far);
            x.group(far);
            x.fault(far);
            x.drop(far == -1 ? 4 : far, far);
        }
        Checks.due("questions, fault", Make.fault(x), Make.fault(twin));
        Checks.due("questions", told(x) + spent(x), told(twin) + spent(twin));
    }
}
