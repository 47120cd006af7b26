/** Promises 9 to 14: values, the walk over them, its fields and FAULTs 6 to 8. */
public final class WalkTest {
    private static final String ILLEGAL = "IllegalArgumentException";
    private static final String BOUNDS = "IndexOutOfBoundsException";
    private static final long MISSING = ObsMessages.MISSING;

    public static void main(String[] args) {
        values();
        operators();
        quality();
        repeats();
        counts();
        bits();
        bitFaults();
        marks();
        fault8Fields();
        fault8Descriptors();
        noSuch();
        finds();
        Checks.end("WalkTest");
    }

    private static void values() {
        Counted x = new Counted();
        long[] some = {0, -1, Long.MIN_VALUE, Long.MAX_VALUE, MISSING};
        for (long v : some) {
            Checks.runs("put", () -> x.put(7, 99, v));
            Checks.due("get", x.get(7, 99), v);
        }
        x.put(3, 4, 77);
        Checks.due("another subset", x.get(4, 4), MISSING);
        Checks.due("another value", x.get(3, 5), MISSING);
        Checks.due("that value", x.get(3, 4), 77);
        int[][] wrong = {{-1, 0}, {8, 0}, {0, -1}, {0, 100}, {Integer.MIN_VALUE, 0}, {0, Integer.MAX_VALUE}};
        for (int[] w : wrong) {
            Checks.fails("put" + w[0] + " " + w[1], () -> x.put(w[0], w[1], 1), BOUNDS);
            Checks.due("get" + w[0] + " " + w[1], () -> x.get(w[0], w[1]), BOUNDS);
        }
    }

    /** kind, code, width, scale, target, repetition, reference of a field, as text. */
    private static String shape(Counted x, int subset, int i) {
        StringBuilder s = new StringBuilder();
        for (int what = 0; what <= 5; what++) {
            s.append(x.field(subset, i, what)).append(' ');
        }
        return s.append(x.reference(subset, i)).toString();
    }

    private static void shapes(String what, Counted x, int subset, String... due) {
        for (int i = 0; i < due.length; i++) {
            Checks.due(what + ", field " + i, shape(x, subset, i), due[i]);
        }
        Checks.due(what + ", behind the last", shape(x, subset, due.length), "-1 -1 -1 -1 -1 -1 0");
    }

    private static void faulty(String what, Counted x, int subset, int number, int place) {
        Checks.due(what, () -> x.fields(subset), ILLEGAL);
        Checks.due(what + ", fault", Make.fault(x), number + " at " + place);
    }

    private static void operators() {
        Counted x = Make.template(4, 420, 4, 450, 4, 487, 4, 5, 400, 4, 440, 480, 4);
        Checks.due("operators", x.fields(0), 7);
        shapes("operators", x, 0, "0 4 12 2 -1 -1 10", "0 4 16 2 -1 -1 10", "0 4 16 4 -1 -1 10",
                "0 4 16 4 -1 -1 1280", "0 5 24 2 -1 -1 -384", "0 4 12 4 -1 -1 1280", "0 4 12 2 -1 -1 10");
        x.element(-1, 4, 0, -1000000000, 9);
        Make.refill(x, 487, 4, 480, 401 + 8, 4, 400);
        shapes("far references, less width", x, 0, "0 4 9 0 -1 -1 -128000000000", "0 4 2 0 -1 -1 -1000000000");
        Make.refill(x, 416, 448, 3, 400, 440);
        shapes("WIDTH 0 and SCALE 0 add nothing", x, 0, "0 3 5 0 -1 -1 0");
    }

    private static void quality() {
        Counted x = Make.template(3, 468, 4, 216, 3, 0, 460, 461, 100, 460, 5);
        Make.fill(x, 0, 3);
        x.put(2, 3, 2);
        Checks.due("QUALITY", x.fields(2), 11);
        shapes("QUALITY", x, 2, "0 3 5 0 -1 -1 0", "1 -1 8 0 2 -1 0", "0 4 12 2 -1 -1 10", "2 3 5 0 -1 -1 0",
                "1 -1 8 0 5 0 0", "0 0 8 0 -1 0 0", "1 -1 8 0 7 1 0", "0 0 8 0 -1 1 0", "1 -1 1 0 9 -1 0",
                "0 3 5 0 -1 -1 0", "0 5 20 0 -1 -1 -3");
    }

    private static void repeats() {
        Counted x = Make.template(200 + 16 * 4 + 2, 0, 200 + 16 * 1 + 3, 3, 100, 5);
        Make.fill(x, 0, 218, 4, 1);
        Checks.due("REPEAT", x.fields(0), 2 * (1 + 3 + 2 + 1) + 1);
        int[] codes = {0, 3, 3, 3, 4, 4, 1, 0, 3, 3, 3, 4, 4, 1, 5};
        int[] repetitions = {0, 0, 1, 2, 0, 1, 0, 1, 0, 1, 2, 0, 1, 1, -1};
        for (int i = 0; i < codes.length; i++) {
            Checks.due("code " + i, x.field(0, i, 1), codes[i]);
            Checks.due("repetition " + i, x.field(0, i, 5), repetitions[i]);
        }
        x = Make.template(231, 3, 217, 5);
        Checks.due("15 times and once", x.fields(7), 16);
        Checks.due("the last repetition", x.field(7, 14, 5), 14);
        Checks.due("the only repetition", x.field(7, 15, 5), 0);
    }

    private static void counts() {
        Counted x = Make.template(3, 420, 450, 482, 468, 216, 4, 3, 460, 480, 440, 400, 5);
        x.put(1, 1, 3);
        Checks.due("COUNT without operators", x.fields(1), 1 + 1 + 3 * 2 + 1);
        Checks.due("the COUNT", shape(x, 1, 1), "2 4 12 2 -1 -1 10");
        Checks.due("a QUALITY behind it", shape(x, 1, 2), "1 -1 8 0 3 0 0");
        Checks.due("repeated", shape(x, 1, 3), "0 3 9 2 -1 0 0");
        long[] wrong = {0, 31, -1, MISSING, Long.MIN_VALUE, Long.MAX_VALUE, 1L << 32 | 1};
        for (long v : wrong) {
            x.put(1, 1, v);
            faulty("COUNT " + v, x, 1, 6, 101);
            Checks.due("the COUNT is there", shape(x, 1, 1), "2 4 12 2 -1 -1 10");
            Checks.due("nothing behind it", x.field(1, 2, 0), -1);
        }
        for (long v : new long[] {1, 30}) {
            x.put(1, 1, v);
            Checks.due("COUNT " + v, x.fields(1), (int) (3 + 2 * v));
        }
        x = Make.template(218, 100);
        Make.fill(x, 0, 216, 3, 5);
        Make.values(x, 0, 2, 0, 0, 1, 0);
        Checks.due("a COUNT each time", x.fields(0), 5);
        Checks.due("not in its own, but in another", x.field(0, 0, 5) + " " + x.field(0, 3, 5), "0 1");
        Checks.due("in its own", x.field(0, 1, 5) + " " + x.field(0, 2, 5) + " " + x.field(0, 4, 5), "0 1 0");
        Make.values(x, 0, 2, 0, 0, 31);
        faulty("the second COUNT", x, 0, 6, 3);
    }

    private static void bits() {
        Counted x = Make.template(0, 468, 4, 460, 216, 3, 5, 503, 520, 520);
        Make.values(x, 0, 1, 2, 3, 2, 4, 5, 0, 1, 1);
        Checks.due("BITS", x.fields(0), 11);
        shapes("BITS", x, 0, "0 0 8 0 -1 -1 0", "1 -1 8 0 2 -1 0", "0 4 12 2 -1 -1 10", "2 3 5 0 -1 -1 0",
                "0 5 20 0 -1 0 -3", "0 5 20 0 -1 1 -3", "3 -1 1 0 2 -1 0", "3 -1 1 0 4 -1 0", "3 -1 1 0 5 -1 0",
                "4 5 20 0 4 -1 -3", "4 5 20 0 5 -1 -3");
        Make.values(x, 0, 1, 2, 3, 2, 4, 5, 1, 0, 1);
        Checks.due("other ones", shape(x, 0, 9), "4 4 12 2 2 -1 10");
        Checks.due("other ones", shape(x, 0, 10), "4 5 20 0 5 -1 -3");
        Make.refill(x, 0, 3, 234, 501, 5);
        Make.values(x, 3, 0, 0, 1, 0, 0, 0);
        Checks.due("BITS again", x.fields(3), 6);
        Checks.due("the latest then", x.field(3, 2, 4), 1);
        Checks.due("the latest now", x.field(3, 4, 4), 3);
        Checks.due("in a REPEAT", x.field(3, 2, 5) + " " + x.field(3, 4, 5), "0 1");
        Make.refill(x, 231, 0, 0, 516);
        for (int i = 16; i < 32; i++) {
            x.put(0, i, i % 2);
        }
        Checks.due("16 BITs", x.fields(0), 32);
        Checks.due("the first of 16", x.field(0, 16, 4), 0);
        Checks.due("the last of 16", x.field(0, 31, 4), 15);
    }

    private static void bitFaults() {
        Counted x = Make.template(0, 0, 502);
        for (long v : new long[] {2, -1, MISSING, Long.MAX_VALUE, 1L << 32}) {
            Make.values(x, 5, 0, 0, 1, v);
            faulty("BIT " + v, x, 5, 6, 503);
            Checks.due("the BIT is there", shape(x, 5, 3), "3 -1 1 0 1 -1 0");
        }
        Make.values(x, 5, 0, 0, MISSING, 0);
        faulty("the first BIT", x, 5, 6, 502);
        Checks.due("not the second", x.field(5, 3, 0), -1);
        Make.refill(x, 0, 0, 503);
        faulty("fewer fields", x, 6, 7, 602);
        Checks.due("no BIT then", x.field(6, 2, 0), -1);
        Make.refill(x, 501);
        faulty("no fields", x, 0, 7, 0);
        Make.refill(x, 216, 3, 0, 461, 0, 460, 503);
        x.put(0, 0, 1);
        faulty("COUNT and QUALITY are none", x, 0, 7, 4);
    }

    private static void marks() {
        Counted x = Make.template(520);
        faulty("nothing is pointed at", x, 0, 7, 0);
        Make.refill(x, 0, 420, 4, 400, 502, 520, 520);
        Make.values(x, 0, 0, 0, 0, 1);
        faulty("none left", x, 0, 7, 5);
        Checks.due("the width as it was there", shape(x, 0, 4), "4 4 16 2 1 -1 10");
        Make.values(x, 0, 0, 0, 0, 0);
        faulty("none at all", x, 0, 7, 4);
        Make.values(x, 0, 0, 0, 1, 1);
        Checks.due("both", x.fields(0), 6);
        Checks.due("from the first on", x.field(0, 4, 4) + " " + x.field(0, 5, 4), "0 1");
        Make.refill(x, 0, 4, 502, 520, 501, 520, 520);
        Make.values(x, 1, 0, 0, 1, 1, 0, 1);
        faulty("others no more", x, 1, 7, 107);
        Checks.due("the new one", x.field(1, 6, 4), 1);
        Make.refill(x, 0, 4, 502, 501, 520);
        Make.values(x, 1, 0, 0, 1, 1, 0);
        faulty("all others no more", x, 1, 7, 105);
        Make.refill(x, 0, 4, 502, 5, 520, 468, 218, 520, 460);
        Make.values(x, 1, 0, 0, 1, 1);
        faulty("they stay for later, and MARK has no QUALITY", x, 1, 7, 107);
        Checks.due("a MARK in a REPEAT", shape(x, 1, 6), "4 4 12 2 1 0 10");
        Make.refill(x, 4, 501, 520, 501);
        Make.values(x, 1, 0, 1, 0, 1);
        Checks.due("a MARK is no ELEMENT", x.fields(1), 4);
        Checks.due("a MARK is no ELEMENT", x.field(1, 3, 4), 0);
    }

    private static void fault8Fields() {
        Counted x = Make.template(200 + 16 + 10, 100);
        Make.fill(x, 0, 200 + 16 + 10, 3);
        Checks.due("100 fields", x.fields(0), 100);
        Checks.due("the 100th", x.field(0, 99, 0) + " " + x.field(0, 100, 0), "0 -1");
        x.append(-1, 416);
        x.append(-1, 400);
        Checks.due("no field behind them", x.fields(0), 100);
        x.append(-1, 0);
        faulty("the 101st field", x, 0, 8, 100);
        faulty("the 101st field of another", x, 3, 8, 400);
        Checks.due("100 are there", x.field(0, 99, 1), 3);
        Make.refill(x, 200 + 16 + 9, 100, 216 + 9, 3, 462, 0, 460);
        faulty("QUALITY is the 100th", x, 0, 8, 100);
        Checks.due("that QUALITY", shape(x, 0, 99), "1 -1 2 0 100 -1 0");
        Make.refill(x, 200 + 16 + 9, 100, 216 + 8, 3, 503);
        x.put(0, 98, 0);
        x.put(0, 99, 1);
        faulty("the 101st is a BIT", x, 0, 8, 100);
        x.put(0, 99, 2);
        faulty("FAULT 6 before that", x, 0, 6, 99);
        Make.refill(x, 200 + 16 + 10, 100, 216, 3, 0);
        faulty("the 101st is a COUNT", x, 0, 8, 100);
    }

    private static void fault8Descriptors() {
        Counted x = Make.template(3, 231, 100, 3);
        Make.fill(x, 0, 231, 101);
        Make.fill(x, 1, 231 + 16, 416, 400);
        faulty("far more than 2000 descriptors", x, 1, 8, 101);
        Checks.due("what came before is there", x.field(1, 0, 1), 3);
        Make.refill(x, 231, 100);
        faulty("far more than 2000 descriptors, and no field", x, 1, 8, 100);
        x = Make.template(231, 100, 231, 103, 3);
        Make.fill(x, 0, 231, 101);
        Make.fill(x, 1, 200 + 32 + 3, 416, 400);
        Make.fill(x, 3, 200 + 32 + 4, 416, 400);
        // 1 + 15 * (1 + 1 + 15 * (1 + 1 + 3 * 2)) = 1831, and 1 + 15 * (1 + 1 + 4 * 2) = 151, and 1
        Checks.due("1983 descriptors", x.fields(0), 1);
        for (int i = 0; i < 7; i++) {
            Make.fill(x, -1, 416, 400);
        }
        Make.fill(x, -1, 3, 3, 3);
        Checks.due("2000 descriptors", x.fields(0), 4);
        x.append(-1, 520);
        faulty("the 2001st descriptor, ahead of its FAULT 7", x, 0, 8, 4);
        fault8Counts(x);
    }

    private static void fault8Counts(Counted x) {
        Make.refill(x, 231, 100, 231, 103, 3);
        for (int i = 0; i < 7; i++) {
            Make.fill(x, -1, 416, 400);
        }
        Make.fill(x, -1, 216, 3, 3);
        x.put(0, 1, 1);
        Checks.due("2000 descriptors with a COUNT", x.fields(0), 3);
        x.put(0, 1, 2);
        faulty("2001 descriptors by a COUNT", x, 0, 8, 3);
        Make.refill(x, 231, 100, 231, 103, 3);
        for (int i = 0; i < 7; i++) {
            Make.fill(x, -1, 416, 400);
        }
        Make.fill(x, -1, 3, 3, 216, 3, 3);
        faulty("the COUNT is the 2001st", x, 0, 8, 3);
        Checks.due("it is not there", x.field(0, 3, 0), -1);
    }

    private static void noSuch() {
        Counted x = Make.template(4, 5);
        for (int subset : new int[] {-1, 8, Integer.MIN_VALUE, Integer.MAX_VALUE}) {
            Checks.due("fields of " + subset, () -> x.fields(subset), BOUNDS);
            Checks.due("field of " + subset, () -> x.field(subset, 0, 0), -1);
            Checks.due("reference of " + subset, () -> x.reference(subset, 0), 0);
            Checks.due("find in " + subset, () -> x.find(subset, 4, -1, 0), -1);
        }
        for (int i : new int[] {-1, 2, 99, 100, Integer.MIN_VALUE, Integer.MAX_VALUE}) {
            Checks.due("field " + i, () -> x.field(0, i, 2), -1);
            Checks.due("reference " + i, () -> x.reference(0, i), 0);
        }
        for (int what : new int[] {-1, 6, Integer.MIN_VALUE, Integer.MAX_VALUE}) {
            Checks.due("what " + what, () -> x.field(0, 0, what), -1);
        }
        Checks.due("reference", x.reference(7, 1), -3);
        x.append(-1, 63);
        Checks.due("a template with a FAULT", x.field(0, 0, 0) + " " + x.reference(0, 0) + " " + x.find(0, 4, -1, 0),
                "-1 0 -1");
        faulty("a template with a FAULT", x, 3, 1, 2);
    }

    private static void finds() {
        Counted x = Make.template(3, 200 + 16 * 4 + 2, 3, 219, 3, 4, 501, 520, 216, 3, 5);
        Make.values(x, 0, 0, 0, 0, 0, 0, 0, 0, 0, 0, 0, 0, 1);
        x.put(0, 13, 1);
        // 3 | 3 3 3 3 4 | 3 3 3 3 4 | BIT MARK COUNT 5
        Checks.due("fields", x.fields(0), 15);
        int[] of3 = {0, 1, 2, 3, 4, 6, 7, 8, 9};
        for (int n = 0; n < of3.length; n++) {
            Checks.due("nth " + n, x.find(0, 3, -1, n), of3[n]);
        }
        Checks.due("a COUNT is none", x.find(0, 3, -1, 9), -1);
        Checks.due("a MARK is none", x.find(0, 4, -1, 2), -1);
        Checks.due("repetition 0", x.find(0, 3, 0, 0) + " " + x.find(0, 3, 0, 1) + " " + x.find(0, 3, 0, 2) + " "
                + x.find(0, 3, 0, 3), "1 2 7 -1");
        Checks.due("repetition 1", x.find(0, 3, 1, 0) + " " + x.find(0, 3, 1, 1) + " " + x.find(0, 3, 1, 2), "3 6 8");
        Checks.due("repetition 2", x.find(0, 3, 2, 1) + " " + x.find(0, 3, 2, 2), "9 -1");
        Checks.due("repetition 3", x.find(0, 3, 3, 0), -1);
        Checks.due("no such repetition", x.find(0, 3, -2, 0), -1);
        Checks.due("no such nth", x.find(0, 3, -1, -1) + " " + x.find(0, 3, -1, Integer.MAX_VALUE), "-1 -1");
        Checks.due("no such element", x.find(0, 63, -1, 0) + " " + x.find(0, -1, -1, 0) + " " + x.find(0, 64, -1, 0),
                "-1 -1 -1");
        Checks.due("as far as it comes", x.find(1, 4, -1, 1), 10);
        Checks.due("no farther", x.find(1, 5, -1, 0), -1);
    }
}
