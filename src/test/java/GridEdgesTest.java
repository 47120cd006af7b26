/** Promises 19 to 22 at their edges: points, LOW and STEP, the order of the codes, the groups and their cost. */
public final class GridEdgesTest {
    private static final String ILLEGAL = "IllegalArgumentException";
    private static final String STATE = "IllegalStateException";
    private static final String BOUNDS = "IndexOutOfBoundsException";
    private static final long MISSING = ObsMessages.MISSING;
    private static final long FARTHEST = 2000000000L;
    private static final int[] FAR = {Integer.MIN_VALUE, Integer.MAX_VALUE};

    public static void main(String[] args) {
        pointBounds();
        numbers();
        bitBounds();
        allMissing();
        steps();
        farthestSteps();
        cutCodes();
        order();
        missingHasNoCode();
        costOfOne();
        groupOrNot();
        tiesGoToTheLongest();
        groupEnds();
        nothingPacked();
        latestPack();
        Checks.end("GridEdgesTest");
    }

    private static int inOrder(int n) {
        return n / 8 % 2 == 0 ? n : n / 8 * 8 + 7 - n % 8;
    }

    /** A grid with these numbers in ORDER, all others MISSING. */
    private static Counted grid(long... numbers) {
        Counted x = new Counted();
        for (int n = 0; n < numbers.length; n++) {
            x.point(inOrder(n), numbers[n]);
        }
        return x;
    }

    /** codes, bits, and the ends of all groups, as text. */
    private static String groups(Counted x) {
        StringBuilder s = new StringBuilder(x.group(-1) + " " + x.group(-2) + ":");
        int g = 0;
        for (int end = x.group(0); end != -1; end = x.group(g)) {
            s.append(" ").append(end);
            g++;
        }
        return s.toString();
    }

    // ---- points

    /** "GRID: 64 points"; "NONE is no point: IndexOutOfBoundsException", ahead of a wrong number. */
    private static void pointBounds() {
        for (int i = 0; i < 64; i++) {
            Counted x = new Counted();
            x.point(i, 7);
            Checks.due("point " + i, x.pack(1) + " " + x.packedAt(i) + " " + x.group(-1), "0 7 1");
        }
        for (int i : new int[] {-1, -2, 64, 65, FAR[0], FAR[1]}) {
            Counted x = new Counted();
            Checks.fails("point " + i, () -> x.point(i, 7), BOUNDS);
            Checks.fails("point " + i + ", MISSING", () -> x.point(i, MISSING), BOUNDS);
            Checks.fails("point " + i + ", no number", () -> x.point(i, FARTHEST + 1), BOUNDS);
            Checks.due("no point came", () -> x.pack(1), STATE);
        }
    }

    /** "each a number (-2000000000 .. 2000000000) or MISSING"; a refused one leaves the point as it was. */
    private static void numbers() {
        for (long v : new long[] {-FARTHEST, -FARTHEST + 1, 0, FARTHEST - 1, FARTHEST}) {
            Counted x = new Counted();
            x.point(9, v);
            x.pack(31);
            Checks.due("number " + v, x.packedAt(9), v);
        }
        for (long v : new long[] {-FARTHEST - 1, FARTHEST + 1, 1L << 32, Long.MIN_VALUE, Long.MAX_VALUE, MISSING - 1,
            MISSING + 1}) {
            Counted x = new Counted();
            Checks.fails("number " + v, () -> x.point(9, v), ILLEGAL);
            Checks.due("still MISSING", () -> x.pack(1), STATE);
            x.point(9, 3);
            Checks.fails("number " + v, () -> x.point(9, v), ILLEGAL);
            x.pack(1);
            Checks.due("still 3", x.packedAt(9), 3);
        }
    }

    // ---- pack

    /** "bits are not 1 .. 31", ahead of all points MISSING; what was packed before stays. */
    private static void bitBounds() {
        for (int bits : new int[] {0, -1, 32, 33, FAR[0], FAR[1]}) {
            Counted x = new Counted();
            Checks.due("bits " + bits + ", all MISSING", () -> x.pack(bits), ILLEGAL);
            x.point(0, 5);
            x.point(1, 9);
            Checks.due("bits " + bits, () -> x.pack(bits), ILLEGAL);
            Checks.due("nothing was packed", x.packedAt(0) + " " + groups(x), MISSING + " -1 -1:");
            x.pack(3);
            x.point(1, 10);
            Checks.due("bits " + bits, () -> x.pack(bits), ILLEGAL);
            Checks.due("as it was packed before", x.packedAt(1) + " " + groups(x), "9 2 20: 2");
        }
        for (int bits = 1; bits <= 31; bits++) {
            Counted x = grid(5);
            Checks.due("bits " + bits, x.pack(bits) + " " + groups(x), "0 1 " + (bits + 11) + ": 1");
        }
    }

    /** "IllegalStateException: all points are MISSING." */
    private static void allMissing() {
        Counted x = new Counted();
        Checks.due("at first", () -> x.pack(5), STATE);
        x.point(63, 4);
        Checks.due("one point", () -> x.pack(5), 0);
        x.point(63, MISSING);
        Checks.due("MISSING again", () -> x.pack(5), STATE);
        Checks.due("as it was packed before", x.packedAt(63) + " " + groups(x), "4 1 16: 1");
    }

    /** "STEP E the least with which each (point - LOW) / 2^E (cut) is at most 2^B - 1": for each B both sides. */
    private static void steps() {
        for (int bits = 1; bits <= 31; bits++) {
            for (int step = 0; bits + step <= 31; step++) {
                long most = (1L << bits + step) - 1;
                Counted x = grid(-FARTHEST, -FARTHEST + most);
                Checks.due("B " + bits + ", " + most, x.pack(bits), step);
                if (most + 1 <= 2 * FARTHEST) {
                    Counted y = grid(-FARTHEST + most + 1, -FARTHEST);
                    Checks.due("B " + bits + ", " + (most + 1), y.pack(bits), step + 1);
                }
            }
            Checks.due("B " + bits + ", no difference", grid(3, 3, 3).pack(bits), 0);
        }
    }

    /** LOW and STEP of the two numbers that lie farthest apart. */
    private static void farthestSteps() {
        for (int bits = 1; bits <= 31; bits++) {
            Counted x = grid(-FARTHEST, FARTHEST);
            Checks.due("the farthest, B " + bits, x.pack(bits), 32 - bits);
            long code = 2 * FARTHEST >> 32 - bits;
            Checks.due("the farthest, cut, B " + bits, x.packedAt(1), -FARTHEST + (code << 32 - bits));
            Checks.due("LOW", x.packedAt(0), -FARTHEST);
        }
    }

    /** "(cut)"; "LOW + code * 2^STEP". */
    private static void cutCodes() {
        Counted x = grid(-10, -9, -8, -7, -6, -5, -4, -3, -2, -1, 0, 1, 2, 3, 4, 5);
        Checks.due("16 numbers in 2 bits", x.pack(2), 2);
        for (int n = 0; n < 16; n++) {
            Checks.due("number " + n, x.packedAt(inOrder(n)), -10 + n / 4 * 4);
        }
        Checks.due("16 numbers in 4 bits", x.pack(4), 0);
        for (int n = 0; n < 16; n++) {
            Checks.due("number " + n, x.packedAt(inOrder(n)), -10 + n);
        }
    }

    /** "In ORDER: row 0 from the left, row 1 from the right, and so on": a step up at each place of it. */
    private static void order() {
        for (int high = 1; high < 64; high++) {
            Counted x = new Counted();
            for (int n = 0; n < 64; n++) {
                x.point(inOrder(n), n < high ? 0 : 2000000);
            }
            x.pack(21);
            Checks.due("up from " + high, groups(x), "64 64: " + high + " 64");
        }
    }

    /** "these are the CODES, in order, without MISSING points". */
    private static void missingHasNoCode() {
        Counted x = new Counted();
        for (int n = 0; n < 64; n += 2) {
            x.point(inOrder(n), n < 20 ? 0 : 2000000);
        }
        x.pack(21);
        Checks.due("each second point", groups(x), "32 64: 10 32");
        Checks.due("MISSING between them", x.packedAt(inOrder(1)), MISSING);
        Counted y = new Counted();
        for (int i = 0; i < 64; i++) {
            y.point(i, i);
        }
        y.pack(6);
        Checks.due("all points", y.group(-1), 64);
    }

    // ---- groups

    /** "a group costs B + 11 bits, and for each code as many bits as its greatest less its least code has". */
    private static void costOfOne() {
        for (int bits = 1; bits <= 31; bits++) {
            for (int has = 1; has <= bits; has++) {
                for (long difference : new long[] {1L << has - 1, (1L << has) - 1}) {
                    Counted x = grid(-FARTHEST, -FARTHEST + difference);
                    x.pack(bits);
                    // two codes: one group, unless another one costs less than the bits of two codes
                    Checks.due("B " + bits + ", " + difference, groups(x), 2 * has <= bits + 11
                            ? "2 " + (bits + 11 + 2 * has) + ": 2" : "2 " + 2 * (bits + 11) + ": 1 2");
                }
            }
            Counted y = grid(8, 8, 8, 8, 8);
            y.pack(bits);
            Checks.due("no difference, B " + bits, groups(y), "5 " + (bits + 11) + ": 5");
        }
    }

    /** "The cheapest cut is taken": some 0, then some 1, in 1 bit, cost 12 and a bit each as one group, 24 as two. */
    private static void groupOrNot() {
        for (int zeros = 1; zeros <= 20; zeros++) {
            for (int ones = 1; ones <= 20; ones++) {
                long[] numbers = new long[zeros + ones];
                for (int n = zeros; n < numbers.length; n++) {
                    numbers[n] = 1;
                }
                Counted x = grid(numbers);
                x.pack(1);
                int all = zeros + ones;
                Checks.due(zeros + " and " + ones, groups(x), all <= 12 ? all + " " + (12 + all) + ": " + all
                        : all + " 24: " + zeros + " " + all);
            }
        }
    }

    /** "of several the one whose first group is the longest, then its second, and so on". */
    private static void tiesGoToTheLongest() {
        Counted x = grid(0, 0, 0, 0, 0, 0, 1, 1, 1, 1, 1, 1);
        x.pack(1);
        Checks.due("one or two groups", groups(x), "12 24: 12");
        // 6 zeros, 6 ones, 13 zeros: the ones with the zeros before them, or alone
        long[] numbers = new long[25];
        for (int n = 6; n < 12; n++) {
            numbers[n] = 1;
        }
        Counted y = grid(numbers);
        y.pack(1);
        Checks.due("the longer one first", groups(y), "25 36: 12 25");
        // 14 zeros, 6 ones, 6 zeros, 14 ones: the middle as one group, or two
        long[] more = new long[40];
        for (int n = 14; n < 40; n++) {
            more[n] = n < 20 || n >= 26 ? 1 : 0;
        }
        Counted z = grid(more);
        z.pack(1);
        Checks.due("the first, then the second", groups(z), "40 48: 14 26 40");
    }

    /** "the end (number of the code behind the last one) of group what. NONE if there is none such." */
    private static void groupEnds() {
        Counted x = new Counted();
        for (int n = 0; n < 64; n++) {
            x.point(inOrder(n), n % 2 == 0 ? 0 : 2000000000L);
        }
        x.pack(31);
        Checks.due("one group is the cheapest", x.group(-2), 64 * 31 + 42);
        long[] far = {0, 0, 0, 0, 2000000000L, 2000000000L, 2000000000L, 2000000000L, 0, 0, 0, 0};
        Counted y = grid(far);
        y.pack(31);
        Checks.due("three groups", groups(y), "12 126: 4 8 12");
        for (int what : new int[] {-3, -4, 3, 4, 12, 63, 64, 65, FAR[0], FAR[1]}) {
            Checks.due("no group " + what, y.group(what), -1);
        }
        Counted z = grid(far);
        z.pack(31);
        z.point(0, 5);
        for (int n = 1; n < 12; n++) {
            z.point(inOrder(n), MISSING);
        }
        z.pack(31);
        Checks.due("fewer groups than before", groups(z), "1 42: 1");
        Checks.due("no second group any more", z.group(1) + " " + z.group(2), "-1 -1");
    }

    /** "MISSING if it was, or nothing was packed"; NONE for every what before the first pack(). */
    private static void nothingPacked() {
        Counted x = grid(1, 2, 3);
        for (int i : new int[] {0, 63, -1, 64, FAR[0], FAR[1]}) {
            Checks.due("point " + i, x.packedAt(i), MISSING);
        }
        for (int what : new int[] {-1, -2, 0, 1, -3, 63, FAR[0], FAR[1]}) {
            Checks.due("what " + what, x.group(what), -1);
        }
        x.pack(2);
        for (int i : new int[] {3, 63, -1, 64, 65, FAR[0], FAR[1]}) {
            Checks.due("point " + i + " of three", x.packedAt(i), MISSING);
        }
        Checks.due("the three", x.packedAt(0) + " " + x.packedAt(1) + " " + x.packedAt(2), "1 2 3");
    }

    /** "Point i as it was packed latest": points that change later do not matter until the next pack(). */
    private static void latestPack() {
        Counted x = grid(1, 2, 3);
        x.pack(2);
        x.point(0, 100);
        x.point(1, MISSING);
        x.point(3, 50);
        Checks.due("as packed", x.packedAt(0) + " " + x.packedAt(1) + " " + x.packedAt(3) + " " + x.group(-1),
                "1 2 " + MISSING + " 3");
        Checks.due("packed anew", x.pack(7), 0);
        Checks.due("as packed anew", x.packedAt(0) + " " + x.packedAt(1) + " " + x.packedAt(3) + " " + x.group(-1),
                "100 " + MISSING + " 50 3");
    }
}
