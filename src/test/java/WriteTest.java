/** Promises 15 and 16: messages, PLAIN and PACKED, and FAULTs 9 and 10. */
public final class WriteTest {
    private static final String ILLEGAL = "IllegalArgumentException";
    private static final long MISSING = ObsMessages.MISSING;

    public static void main(String[] args) {
        plain();
        plainOfAllKinds();
        wrongNumbers();
        fault9();
        faultOrder();
        packed();
        packedWidths();
        packedOfAllKinds();
        fault10();
        largest();
        Checks.end("WriteTest");
    }

    private static void written(String what, Counted x, int n, boolean packed, String bits) {
        String b = bits.replace(" ", "");
        Checks.due(what + ", bytes", () -> x.write(n, packed), 4 + (b.length() + 7) / 8);
        Checks.due(what + ", head", x.byteAt(0) + " " + x.byteAt(1), (packed ? "67 " : "66 ") + n);
        Checks.due(what + ", bits", Make.bits(x), b);
        Checks.due(what + ", fault", Make.fault(x), "0 at -1");
    }

    private static void faulty(String what, Counted x, int n, boolean packed, int number, int place) {
        String before = Make.message(x);
        Checks.due(what, () -> x.write(n, packed), ILLEGAL);
        Checks.due(what + ", fault", Make.fault(x), number + " at " + place);
        Checks.due(what + ", the message before stays", Make.message(x), before);
    }

    private static void plain() {
        Counted x = Make.template(3, 4);
        Make.values(x, 0, 5, 10);
        Make.values(x, 1, 30, 4104);
        written("one subset", x, 1, false, "00101 000000000000");
        Checks.due("fill", x.byteAt(6), 0);
        Checks.due("the whole", Make.message(x), "66 1 0 17 40 0 0");
        written("two subsets", x, 2, false, "00101 000000000000 11110 111111111110");
        written("MISSING", x, 3, false, "00101 000000000000 11110 111111111110 11111 111111111111");
        for (int i : new int[] {-1, 11, 1000, 100000, Integer.MIN_VALUE, Integer.MAX_VALUE}) {
            Checks.due("byte " + i, () -> x.byteAt(i), -1);
        }
        Checks.due("the last byte", x.byteAt(10), 0b11100000);
        x.put(0, 0, 0);
        Checks.due("the message stays when a value changes", x.byteAt(4), 40);
        x.clear(-1);
        written("no fields", x, 8, false, "");
        Checks.due("no fields", Make.message(x), "66 8 0 0");
        written("no fields, PACKED", x, 8, true, "");
    }

    private static void plainOfAllKinds() {
        Counted x = Make.template(463, 216, 5, 3, 460, 502, 520);
        Make.values(x, 0, 2, 6, 1, MISSING, 30, 1, 0, 7);
        written("all kinds", x, 1, false, "00000000000000000101 110 00001 111 11110 1 0 00111");
        x = Make.template(422, 481, 5, 480, 400);
        Make.values(x, 0, -6);
        written("reference -6, width 26", x, 1, false, "0".repeat(26));
        x.put(0, 0, -6 + (1 << 26) - 2);
        written("the greatest", x, 1, false, "1".repeat(25) + "0");
        x = Make.template(1, 2);
        Make.values(x, 0, 0, (1L << 32) - 2);
        Make.values(x, 1, MISSING, MISSING);
        written("widths 1 and 32", x, 2, false, "0 " + "1".repeat(31) + "0 1 " + "1".repeat(32));
    }

    private static void wrongNumbers() {
        Counted x = Make.template(63);
        for (int n : new int[] {0, -1, 9, Integer.MIN_VALUE, Integer.MAX_VALUE}) {
            Checks.due("compile", () -> x.compile(), ILLEGAL);
            faulty("n " + n, x, n, false, 0, -1);
            Checks.due("compile", () -> x.compile(), ILLEGAL);
            faulty("n " + n + ", PACKED", x, n, true, 0, -1);
        }
    }

    private static void fault9() {
        Counted x = leastOf345();
        Checks.due("the least", () -> x.write(2, false), 4 + (2 * 37 + 7) / 8);
        Make.values(x, 0, 30, 4104, 1048571);
        Checks.due("the greatest", () -> x.write(2, false), 14);
        long[][] wrong = {{0, -1}, {0, 31}, {0, 32}, {1, 9}, {1, 4105}, {2, -4}, {2, 1048572}, {2, Long.MIN_VALUE},
                {2, Long.MAX_VALUE}, {1, Long.MIN_VALUE}, {1, MISSING + 1}, {1, MISSING - 1}};
        for (int s = 0; s < 2; s++) {
            for (long[] w : wrong) {
                Counted y = leastOf345();
                y.write(2, false);
                y.put(s, (int) w[0], w[1]);
                faulty("subset " + s + " value " + w[1], y, 2, false, 9, 100 * s + (int) w[0]);
                faulty("subset " + s + " value " + w[1], y, 2, true, 9, 100 * s + (int) w[0]);
                Checks.due("no FAULT of fields()", y.fields(s), 3);
            }
        }
        Counted z = Make.template(1);
        z.put(0, 0, 1);
        faulty("width 1 has but 0", z, 1, false, 9, 0);
    }

    /** Elements 3, 4 and 5, with their least values in subsets 0 and 1. */
    private static Counted leastOf345() {
        Counted x = Make.template(3, 4, 5);
        Make.values(x, 0, 0, 10, -3);
        Make.values(x, 1, 0, 10, -3);
        return x;
    }

    private static void faultOrder() {
        Counted x = Make.withElements();
        x.element(0, 6, 0, 0, 3);
        Make.refill(x, 3, 216, 6, 3, 501);
        Make.values(x, 0, 99, 99, 99, 99);
        faulty("9 at the first field", x, 1, false, 9, 0);
        x.put(0, 0, 1);
        faulty("6 at the COUNT", x, 1, false, 6, 1);
        x.put(0, 1, MISSING);
        faulty("6 at a COUNT that is MISSING", x, 1, false, 6, 1);
        x.put(0, 1, 7);
        faulty("9 at a COUNT that has no raw number", x, 1, false, 9, 1);
        Checks.due("no FAULT of fields()", () -> x.fields(0), ILLEGAL);
        Checks.due("but at the BIT", Make.fault(x), "6 at 9");
        x.put(0, 1, 1);
        faulty("9 behind the COUNT", x, 1, false, 9, 2);
        x.put(0, 2, 1);
        faulty("6 at the BIT", x, 1, false, 6, 3);
        x.put(0, 3, 1);
        Checks.due("none", () -> x.write(1, false), 4 + 2);
        faulty("another subset", x, 2, false, 6, 101);
        x.append(-1, 520);
        x.append(-1, 520);
        x.put(0, 4, 77);
        faulty("9 at the MARK", x, 8, true, 9, 4);
        x.put(0, 4, 7);
        faulty("7 behind it", x, 8, true, 7, 5);
        x.append(-1, 400);
        faulty("4 of the template", x, 8, true, 4, 7);
    }

    private static void packed() {
        Counted x = Make.template(3);
        x.put(0, 0, 4);
        written("one", x, 1, true, "00100 000000");
        x.put(1, 0, 4);
        written("the same", x, 2, true, "00100 000000");
        x.put(1, 0, 5);
        written("difference 1", x, 2, true, "00100 000010 00 01");
        x.put(1, 0, 2);
        written("difference 2", x, 2, true, "00010 000010 10 00");
        x.put(1, 0, 1);
        written("difference 3", x, 2, true, "00001 000011 011 000");
        x.put(1, 0, MISSING);
        written("one is MISSING", x, 2, true, "00100 000001 0 1");
        x.put(0, 0, MISSING);
        x.put(1, 0, 4);
        written("the first is MISSING", x, 2, true, "00100 000001 1 0");
        x.put(2, 0, 10);
        written("three", x, 3, true, "00100 000011 111 000 110");
        x.put(2, 0, 11);
        written("three, 7 apart", x, 3, true, "00100 000100 1111 0000 0111");
        x.put(1, 0, MISSING);
        x.put(2, 0, MISSING);
        written("all MISSING", x, 3, true, "11111 000000");
    }

    private static void packedWidths() {
        for (int w = 2; w <= 32; w++) {
            Counted x = Make.template(2);
            x.put(0, 0, 0);
            x.put(1, 0, (1L << w) - 2);
            x.write(2, true);
            Checks.due("W " + w, Make.bits(x).substring(32, 38),
                    String.format("%6s", Integer.toBinaryString(w)).replace(' ', '0'));
            Checks.due("bits " + w, 256 * x.byteAt(2) + x.byteAt(3), 38 + 2 * w);
            x.put(1, 0, (1L << w - 1) - 1);
            x.write(2, true);
            Checks.due("W " + w + " from", 256 * x.byteAt(2) + x.byteAt(3), 38 + 2 * w);
        }
        Counted y = Make.template(1);
        y.put(1, 0, 0);
        written("width 1", y, 2, true, "0 000001 1 0");
    }

    private static void packedOfAllKinds() {
        Counted x = Make.template(463, 216, 5, 3, 460, 502, 520);
        Make.values(x, 0, 2, 6, 1, MISSING, 30, 1, 0, 7);
        Make.values(x, 1, 2, 5, 1, 3, MISSING, 1, 0, 7);
        written("all kinds", x, 2, true, "00000000000000000101 000000  101 000010 01 00  00001 000000  011 000001 1 0"
                + "  11110 000001 0 1  1 000000  0 000000  00111 000000");
    }

    private static void fault10() {
        Counted x = Make.template(3, 216, 3, 4, 501, 520);
        for (int s = 0; s < 4; s++) {
            Make.values(x, s, s, 2, 10 + s, 11 + s, 1, 12 + s);
        }
        Checks.due("alike", () -> x.write(4, true) > 0, true);
        x.put(2, 1, 1);
        x.put(2, 3, 1);
        x.put(2, 4, 12);
        faulty("another COUNT", x, 4, true, 10, 201);
        Checks.due("PLAIN needs none", () -> x.write(4, false) > 0, true);
        Checks.due("nor the first two", () -> x.write(2, true) > 0, true);
        x.put(3, 4, 2);
        faulty("6 of a later subset comes first", x, 4, true, 6, 304);
        x.put(3, 4, 1);
        x.put(3, 0, 31);
        faulty("9 of a later subset comes first", x, 4, true, 9, 300);
        Make.refill(x, 3, 3, 502);
        Make.values(x, 0, 1, 1, 1, 0);
        Make.values(x, 1, 2, 2, 1, 0);
        Make.values(x, 2, 3, 3, 1, 1);
        Make.values(x, 3, 3, 3, 0, 1);
        faulty("another BIT", x, 4, true, 10, 203);
        x.put(2, 3, 0);
        faulty("another BIT", x, 4, true, 10, 302);
    }

    /** All values are given by a message, as 512 calls do not put so many. */
    private static void largest() {
        Counted x = Make.template(226, 100);
        Make.fill(x, 0, 226, 2);
        Checks.due("PLAIN, all MISSING", () -> x.write(8, false), 4 + 8 * 100 * 4);
        Checks.due("PACKED, all MISSING", () -> x.write(8, true), 4 + 100 * 38 / 8);
        Make.feedBits(x, 67, 8, ("1".repeat(31) + "0 000000").repeat(100));
        Checks.due("all the same", () -> x.read(), 8);
        Checks.due("PLAIN", () -> x.write(8, false), 4 + 8 * 100 * 4);
        Checks.due("PACKED, all the same", () -> x.write(8, true), 4 + 100 * 38 / 8);
        for (int i = 0; i < 100; i++) {
            x.put(0, i, 0);
        }
        Checks.due("PACKED", () -> x.write(8, true), 4 + 100 * (38 + 8 * 32) / 8);
        Checks.due("bits", 256 * x.byteAt(2) + x.byteAt(3), 100 * (38 + 8 * 32));
        Checks.due("the last byte", x.byteAt(4 + 100 * (38 + 8 * 32) / 8 - 1), 254);
    }
}
