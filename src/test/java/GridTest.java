import java.util.ArrayList;
import java.util.List;
import java.util.Random;

/** Promises 19 to 22: the grid, packed and grouped. */
public final class GridTest {
    private static final String ILLEGAL = "IllegalArgumentException";
    private static final String STATE = "IllegalStateException";
    private static final String BOUNDS = "IndexOutOfBoundsException";
    private static final long MISSING = ObsMessages.MISSING;

    public static void main(String[] args) {
        points();
        steps();
        packedPoints();
        order();
        groups();
        cheapestOfAll();
        Checks.end("GridTest");
    }

    private static void points() {
        Counted x = new Counted();
        for (int i : new int[] {-1, 64, Integer.MIN_VALUE, Integer.MAX_VALUE}) {
            Checks.fails("point " + i, () -> x.point(i, 0), BOUNDS);
            Checks.fails("point " + i + ", no number either", () -> x.point(i, Long.MAX_VALUE), BOUNDS);
        }
        for (long v : new long[] {2000000001L, -2000000001L, Long.MAX_VALUE, Long.MIN_VALUE, MISSING + 1, MISSING - 1}) {
            Checks.fails("number " + v, () -> x.point(0, v), ILLEGAL);
        }
        Checks.due("nothing was put", () -> x.pack(1), STATE);
        for (long v : new long[] {2000000000L, -2000000000L, 0, MISSING}) {
            Checks.runs("number " + v, () -> x.point(63, v));
        }
        Checks.due("MISSING again", () -> x.pack(1), STATE);
        for (int bits : new int[] {0, -1, 32, Integer.MIN_VALUE, Integer.MAX_VALUE}) {
            Checks.due("bits " + bits + ", all MISSING", () -> x.pack(bits), ILLEGAL);
        }
        x.point(63, 5);
        for (int bits : new int[] {0, -1, 32, Integer.MIN_VALUE, Integer.MAX_VALUE}) {
            Checks.due("bits " + bits, () -> x.pack(bits), ILLEGAL);
        }
        Checks.due("nothing was packed", x.group(-1) + " " + x.packedAt(63), "-1 " + MISSING);
    }

    private static void steps() {
        Counted x = new Counted();
        x.point(3, -7);
        Checks.due("one point", x.pack(1), 0);
        Checks.due("one point", x.packedAt(3), -7);
        x.point(60, -6);
        Checks.due("difference 1 in 1 bit", x.pack(1), 0);
        x.point(60, -5);
        Checks.due("difference 2 in 1 bit", x.pack(1), 1);
        x.point(60, -4);
        Checks.due("difference 3 in 1 bit", x.pack(1), 1);
        Checks.due("difference 3 in 2 bits", x.pack(2), 0);
        x.point(60, -3);
        Checks.due("difference 4 in 1 bit", x.pack(1), 2);
        x.point(3, -2000000000L);
        x.point(60, 2000000000L);
        Checks.due("farthest in 31 bits", x.pack(31), 1);
        Checks.due("farthest in 1 bit", x.pack(1), 31);
        Checks.due("low", x.packedAt(3), -2000000000L);
        Checks.due("high, cut", x.packedAt(60), -2000000000L + (1L << 31));
        x.point(60, -2000000000L + (1L << 31) - 1);
        Checks.due("just 31 bits", x.pack(31), 0);
    }

    private static void packedPoints() {
        Counted x = new Counted();
        x.point(0, 100);
        x.point(1, 107);
        x.point(8, 104);
        x.point(63, 115);
        Checks.due("16 apart in 2 bits", x.pack(2), 2);
        Checks.due("as packed", x.packedAt(0) + " " + x.packedAt(1) + " " + x.packedAt(8) + " " + x.packedAt(63),
                "100 104 104 112");
        Checks.due("MISSING", x.packedAt(2), MISSING);
        for (int i : new int[] {-1, 64, Integer.MIN_VALUE, Integer.MAX_VALUE}) {
            Checks.due("no point " + i, () -> x.packedAt(i), MISSING);
        }
        x.point(0, MISSING);
        x.point(2, 9);
        Checks.due("as it was packed latest", x.packedAt(0) + " " + x.packedAt(2), "100 " + MISSING);
        Checks.due("pack 0", () -> x.pack(0), ILLEGAL);
        Checks.due("that packs nothing", x.packedAt(0) + " " + x.group(-1), "100 4");
        for (int i = 0; i < 64; i++) {
            x.point(i, MISSING);
        }
        Checks.due("pack nothing", () -> x.pack(5), STATE);
        Checks.due("that packs nothing either", x.packedAt(0) + " " + x.group(-1), "100 4");
        x.point(5, 1);
        x.pack(5);
        Checks.due("packed anew", x.packedAt(0) + " " + x.packedAt(5) + " " + x.group(-1), MISSING + " 1 1");
    }

    /** The points 7 and 8 .. 15 lie apart in number, but row 1 is taken from the right: 15 comes behind 7. */
    private static void order() {
        Counted x = new Counted();
        for (int i = 0; i < 64; i++) {
            boolean isHigh = i >= 12 && i < 20;
            x.point(i, isHigh ? 2000000 : 0);
        }
        x.pack(21);
        // 0 .. 7 low, 15 .. 12 high, 11 .. 8 low, 16 .. 19 high, then low
        Checks.due("ends", x.group(0) + " " + x.group(1) + " " + x.group(2) + " " + x.group(3) + " " + x.group(4) + " "
                + x.group(5), "8 12 16 20 64 -1");
        Checks.due("bits", x.group(-2), 5 * 32);
    }

    private static void groups() {
        Counted x = new Counted();
        for (int what : new int[] {-3, -2, -1, 0, 1, 64, Integer.MIN_VALUE, Integer.MAX_VALUE}) {
            Checks.due("nothing packed, " + what, () -> x.group(what), -1);
        }
        x.point(9, 4);
        x.pack(3);
        Checks.due("one code", x.group(-1) + " " + x.group(-2) + " " + x.group(0) + " " + x.group(1), "1 14 1 -1");
        for (int what : new int[] {-3, 1, 64, 100, Integer.MIN_VALUE, Integer.MAX_VALUE}) {
            Checks.due("no group " + what, () -> x.group(what), -1);
        }
        // 6 codes 0, 6 codes 1: one group costs 12 + 12, two cost 12 + 12
        for (int i = 0; i < 12; i++) {
            x.point(inOrder(i), i < 6 ? 0 : 1);
        }
        x.point(9, 1);
        for (int i = 12; i < 64; i++) {
            x.point(inOrder(i), MISSING);
        }
        x.pack(1);
        Checks.due("of the same cost, the longest first", x.group(-1) + " " + x.group(-2) + " " + x.group(0), "12 24 12");
        x.point(inOrder(12), 1);
        x.pack(1);
        Checks.due("13: two are cheaper", x.group(-2) + " " + x.group(0) + " " + x.group(1), "24 6 13");
    }

    private static int inOrder(int n) {
        return n / 8 % 2 == 0 ? n : n / 8 * 8 + 7 - n % 8;
    }

    /** Against all the ways to cut a few codes. */
    private static void cheapestOfAll() {
        Random random = new Random(7);
        for (int turn = 0; turn < 300; turn++) {
            int n = 1 + random.nextInt(11);
            int bits = 1 + random.nextInt(6);
            Counted x = new Counted();
            List<Long> codes = new ArrayList<>();
            for (int i = 0; i < n; i++) {
                codes.add((long) (random.nextInt(4) == 0 ? random.nextInt(1 << bits) : random.nextInt(2)));
            }
            codes.set(random.nextInt(n), 0L);
            for (int i = 0; i < n; i++) {
                x.point(inOrder(i), codes.get(i));
            }
            x.pack(bits);
            List<Integer> ends = new ArrayList<>();
            for (int g = 0; x.group(g) != -1; g++) {
                ends.add(x.group(g));
            }
            Checks.due("cut of " + codes + " in " + bits, ends.toString() + x.group(-2), best(codes, bits));
        }
    }

    private static String best(List<Long> codes, int bits) {
        int n = codes.size();
        List<Integer> best = null;
        int cheapest = 0;
        for (int cut = 0; cut < 1 << n - 1; cut++) {
            List<Integer> ends = new ArrayList<>();
            int cost = 0;
            int start = 0;
            for (int end = 1; end <= n; end++) {
                if (end == n || (cut >> end - 1 & 1) == 1) {
                    cost += ObsModel.costOf(codes.subList(start, end), bits);
                    ends.add(end);
                    start = end;
                }
            }
            if (best == null || cost < cheapest || cost == cheapest && ObsModel.isLongerFirst(ends, best)) {
                best = ends;
                cheapest = cost;
            }
        }
        return best.toString() + cheapest;
    }
}
