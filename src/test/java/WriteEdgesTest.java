/** Promises 15 and 16 at their edges: FAULTs 9 and 10 from both sides, their order, LEAST and W, the message's form. */
public final class WriteEdgesTest {
    private static final String ILLEGAL = "IllegalArgumentException";
    private static final long MISSING = ObsMessages.MISSING;

    public static void main(String[] args) {
        numbersOfSubsets();
        subsetsBehindN();
        fault9OfElements();
        fault9OfOtherKinds();
        fault6AheadOf9();
        firstBySubsetsAndNumbers();
        walkEndsThere();
        templateFaults();
        fault10OfCounts();
        fault10OfBits();
        fault10Places();
        fault10BehindAll();
        leastAndSpreadOfTwo();
        leastAndSpreadOfMany();
        countAndBitPacked();
        bitCounts();
        bytesOfTheMessage();
        Checks.end("WriteEdgesTest");
    }

    private static void written(String what, Counted x, int n, boolean packed, String bits) {
        String b = bits.replace(" ", "");
        Checks.due(what + ", bytes", () -> x.write(n, packed), 4 + (b.length() + 7) / 8);
        Checks.due(what + ", head", x.byteAt(0) + " " + x.byteAt(1), (packed ? "67 " : "66 ") + n);
        Checks.due(what + ", bits", Make.bits(x), b);
        Checks.due(what + ", fault", Make.fault(x), "0 at -1");
    }

    /** A refused write, with its FAULT and place; "the message before stays". */
    private static void refused(String what, Counted x, int n, boolean packed, int number, int place) {
        String before = Make.message(x);
        Checks.due(what, () -> x.write(n, packed), ILLEGAL);
        Checks.due(what + ", fault", Make.fault(x), number + " at " + place);
        Checks.due(what + ", the message before stays", Make.message(x), before);
    }

    private static void refusedBoth(String what, Counted x, int n, int number, int place) {
        refused(what, x, n, false, number, place);
        refused(what + ", PACKED", x, n, true, number, place);
    }

    /** A template, and a message that was written before it, so that one can be seen to stay. */
    private static Counted withMessage(int... template) {
        Counted x = Make.template(3);
        x.put(0, 0, 21);
        x.write(1, false);
        x.put(0, 0, MISSING);
        Make.refill(x, template);
        return x;
    }

    // ---- n

    /** "IllegalArgumentException: n is not 1 .. 8 (FAULT 0)": ahead of the template's FAULTs. */
    private static void numbersOfSubsets() {
        for (int n : new int[] {0, -1, 9, 10, Integer.MIN_VALUE, Integer.MAX_VALUE}) {
            refusedBoth("n " + n, withMessage(3), n, 0, -1);
            refusedBoth("n " + n + ", ahead of FAULT 1", withMessage(63), n, 0, -1);
            Counted x = withMessage(216, 3, 3);
            Checks.due("a FAULT before that", () -> x.compile() + x.fields(0), ILLEGAL);
            refusedBoth("n " + n + ", FAULT 0 then", x, n, 0, -1);
        }
        for (int n = 1; n <= 8; n++) {
            written("n " + n, withMessage(3), n, false, "11111".repeat(n));
            written("n " + n, withMessage(3), n, true, "11111 000000");
        }
    }

    /** "WRITTEN, of the subsets 0 .. n - 1": what others have does not matter. */
    private static void subsetsBehindN() {
        for (int n = 1; n <= 7; n++) {
            Counted x = withMessage(3);
            x.put(n, 0, 31);
            written("subset " + n + " aside", x, n, false, "11111".repeat(n));
            written("subset " + n + " aside", x, n, true, "11111 000000");
            refusedBoth("subset " + n, x, n + 1, 9, 100 * n);
        }
    }

    // ---- FAULT 9

    /** "RAW number is its value less its reference; 0 .. 2^width - 2, or 2^width - 1 for MISSING": each width. */
    private static void fault9OfElements() {
        for (int width = 1; width <= 32; width++) {
            for (int reference : new int[] {-1000000000, -1, 0, 7, 1000000000}) {
                Counted x = withMessage(40);
                x.element(0, 40, 0, reference, width);
                long ones = (1L << width) - 1;
                String what = "width " + width + ", reference " + reference;
                for (long raw : new long[] {-1, ones, ones + 1}) {
                    x.put(0, 0, reference + raw);
                    refusedBoth(what + ", raw " + raw, x, 1, 9, 0);
                }
                x.put(0, 0, reference);
                written(what + ", the least", x, 1, false, "0".repeat(width));
                x.put(0, 0, reference + ones - 1);
                written(what + ", the greatest", x, 1, false, "1".repeat(width - 1) + "0");
                x.put(0, 0, MISSING);
                written(what + ", MISSING", x, 1, false, "1".repeat(width));
            }
        }
        for (long far : new long[] {Long.MIN_VALUE, Long.MAX_VALUE, MISSING - 1, MISSING + 1, Long.MIN_VALUE + 5}) {
            Counted x = withMessage(487, 40, 480);
            x.element(0, 40, 0, 1000000000, 32);
            x.put(0, 0, far);
            refusedBoth("far off: " + far, x, 1, 9, 0);
            x.element(0, 40, 0, -1000000000, 32);
            refusedBoth("far off: " + far, x, 1, 9, 0);
        }
    }

    /** The same of QUALITY, COUNT and MARK; "(a BIT's is its value)". */
    private static void fault9OfOtherKinds() {
        for (int k = 1; k <= 8; k++) {
            Counted x = withMessage(460 + k, 3, 460);
            x.put(0, 0, (1 << k) - 2);
            written("QUALITY, the greatest", x, 1, false, "1".repeat(k - 1) + "0 11111");
            x.put(0, 0, (1 << k) - 1);
            refusedBoth("QUALITY, one more", x, 1, 9, 0);
            x.put(0, 0, -1);
            refusedBoth("QUALITY -1", x, 1, 9, 0);
        }
        Counted x = withMessage(216, 40, 1);
        x.element(0, 40, 0, 2, 3);
        x.put(0, 0, 2);
        written("COUNT, the least", x, 1, false, "000 1 1");
        x.put(0, 0, 8);
        written("COUNT, the greatest", x, 1, false, "110 1 1 1 1 1 1 1 1");
        x.put(0, 0, 1);
        refusedBoth("COUNT 1 has no raw number", x, 1, 9, 0);
        x.put(0, 0, 9);
        refusedBoth("COUNT 9 has no raw number", x, 1, 9, 0);
        Checks.due("but it can be walked", () -> x.fields(0), 10);
        Counted y = withMessage(4, 501, 520);
        Make.values(y, 0, 10, 1, 9);
        refusedBoth("MARK, below its field's reference", y, 1, 9, 2);
        y.put(0, 2, 4105);
        refusedBoth("MARK, above its field's width", y, 1, 9, 2);
        y.put(0, 2, 4104);
        written("MARK, the greatest", y, 1, false, "000000000000 1 111111111110");
        Counted z = withMessage(3, 501);
        Make.values(z, 0, 0, 1);
        written("BIT 1 is its value, not MISSING", z, 1, false, "00000 1");
    }

    /** "9: a field (no BIT or COUNT that has FAULT 6) whose value has no such raw number". */
    private static void fault6AheadOf9() {
        for (long v : new long[] {0, -1, 31, 32, MISSING, Long.MIN_VALUE, Long.MAX_VALUE}) {
            Counted x = withMessage(3, 216, 40, 1);
            x.element(0, 40, 0, 5, 3);
            Make.values(x, 0, 0, v);
            refusedBoth("COUNT " + v, x, 1, 6, 1);
            Counted y = withMessage(3, 501);
            Make.values(y, 0, 0, v == 0 ? 2 : v);
            refusedBoth("BIT " + v, y, 1, 6, 1);
        }
    }

    /** "at the first field by subsets and numbers (place: 100 * subset + field)". */
    private static void firstBySubsetsAndNumbers() {
        for (int subset = 0; subset <= 7; subset++) {
            Counted x = withMessage(3, 3, 501);
            for (int s = 0; s < 8; s++) {
                Make.values(x, s, 1, 1, 1);
            }
            x.put(subset, 2, 2);
            refusedBoth("6 at the third", x, 8, 6, 100 * subset + 2);
            x.put(subset, 1, 31);
            refusedBoth("9 at the second", x, 8, 9, 100 * subset + 1);
            if (subset < 7) {
                x.put(subset + 1, 0, 31);
                refusedBoth("9 of the next subset does not come first", x, 8, 9, 100 * subset + 1);
                x.put(subset, 1, 1);
                refusedBoth("nor does it before 6", x, 8, 6, 100 * subset + 2);
                x.put(subset, 2, 0);
                refusedBoth("then it does", x, 8, 9, 100 * subset + 100);
            }
        }
    }

    /** "(..; the walk ends there)": FAULTs 7 and 8 behind FAULT 9 are not met; before it they are. */
    private static void walkEndsThere() {
        Counted x = withMessage(3, 520, 3);
        Make.values(x, 0, 31, 0, 31);
        refusedBoth("9, then 7", x, 1, 9, 0);
        x.put(0, 0, 30);
        refusedBoth("7, then 9", x, 1, 7, 1);
        Counted y = withMessage(226, 100, 3);
        Make.fill(y, 0, 226, 3);
        y.put(0, 99, 31);
        refusedBoth("9 at the 100th", y, 1, 9, 99);
        y.put(0, 99, 30);
        refusedBoth("8 at the 101st", y, 1, 8, 100);
        Counted z = withMessage(216, 40, 100);
        Make.fill(z, 0, 231, 3);
        z.element(0, 40, 0, 0, 3);
        z.put(0, 0, 7);
        refusedBoth("9 at a COUNT, then 8", z, 1, 9, 0);
        z.put(0, 0, 6);
        written("enough", z, 1, true, "110 000000" + "11111 000000".repeat(90));
    }

    /** "or a FAULT": 1 to 5 of the template, ahead of those of values. */
    private static void templateFaults() {
        int[][] templates = {{3, 63}, {3, 3, 115}, {233, 3}, {3, 400}, {401, 3, 400}};
        int[] numbers = {1, 1, 3, 4, 5};
        int[] places = {1, 2, 0, 1, 1};
        for (int t = 0; t < templates.length; t++) {
            Counted x = withMessage(templates[t]);
            x.put(0, 0, 31);
            refusedBoth("template " + t, x, 8, numbers[t], places[t]);
        }
        Counted x = withMessage(3, 100);
        x.append(0, 100);
        refusedBoth("a sequence within itself", x, 8, 2, 1);
    }

    // ---- FAULT 10

    /** "COUNT .. with another value": also if there are as many fields. */
    private static void fault10OfCounts() {
        for (int other = 1; other <= 3; other++) {
            Counted x = withMessage(3, 216, 3, 4, 3);
            x.put(0, 1, 2);
            x.put(1, 1, other);
            if (other == 2) {
                written("the same COUNT", x, 2, true, "11111 000000 00010 000000" + ("1".repeat(12) + "000000").repeat(2)
                        + "11111 000000");
            } else {
                refused("COUNT " + other, x, 2, true, 10, 101);
                written("COUNT " + other + ", PLAIN", x, 2, false, "11111 00010" + "1".repeat(29) + "11111 000"
                        + (other == 1 ? "01" : "11") + "1".repeat(12 * other + 5));
            }
        }
        Counted x = withMessage(232, 3, 416, 400);
        x.put(0, 0, 2);
        x.put(1, 0, 3);
        Checks.due("as many fields", x.fields(0) + " " + x.fields(1), "1 1");
        refused("as many fields, but another COUNT", x, 2, true, 10, 100);
    }

    /** "or BIT with another value": whatever it points at. */
    private static void fault10OfBits() {
        Counted x = withMessage(3, 3, 502, 520);
        Make.values(x, 0, 1, 2, 1, 0, 1);
        Make.values(x, 1, 1, 2, 0, 1, 1);
        refused("the first BIT", x, 2, true, 10, 102);
        Make.values(x, 1, 1, 2, 1, 1, 1);
        refused("the second BIT", x, 2, true, 10, 103);
        x.put(1, 3, 0);
        written("the same BITs", x, 2, true, "00001 000000 00010 000000 1 000000 0 000000 00001 000000");
        Counted y = withMessage(3, 4, 502, 520);
        Make.values(y, 0, 1, 10, 1, 0, 1);
        Make.values(y, 1, 1, 10, 0, 1, 10);
        refused("a MARK of another width: at the BIT before it", y, 2, true, 10, 102);
    }

    /** "at the first one (by subsets) .. place as above": against subset 0, and only with more than one. */
    private static void fault10Places() {
        for (int odd = 1; odd <= 7; odd++) {
            Counted x = withMessage(3, 216, 3, 3);
            for (int s = 0; s < 8; s++) {
                x.put(s, 1, s == odd || s == 7 ? 2 : 1);
            }
            refused("subset " + odd, x, 8, true, 10, 100 * odd + 1);
            written("those before", x, odd, true, "11111 000000 00001 000000 11111 000000");
        }
        Counted x = withMessage(216, 3, 3);
        x.put(0, 0, 2);
        x.put(1, 0, 1);
        x.put(2, 0, 1);
        refused("subset 0 is the odd one", x, 3, true, 10, 100);
        written("alone", x, 1, true, "00010 000000 11111 000000 11111 000000");
        Counted y = withMessage(216, 3, 3, 216, 3, 3);
        Make.values(y, 0, 1, 0, 2, 0, 0);
        Make.values(y, 1, 1, 0, 1, 0);
        Make.values(y, 2, 2, 0, 0, 1, 0);
        refused("by subsets, not by fields", y, 3, true, 10, 102);
    }

    /** "behind FAULTs 6 to 9 of all subsets". */
    private static void fault10BehindAll() {
        Counted x = withMessage(216, 3, 3, 501, 520);
        Make.values(x, 0, 2, 1, 1, 1, 1);
        Make.values(x, 1, 1, 1, 1, 1);
        Make.values(x, 2, 1, 1, 1, 1);
        refused("10 alone", x, 3, true, 10, 100);
        x.put(2, 3, 31);
        refused("9 of the last", x, 3, true, 9, 203);
        x.put(2, 2, 0);
        refused("7 of the last", x, 3, true, 7, 203);
        x.put(2, 2, 2);
        refused("6 of the last", x, 3, true, 6, 202);
        Counted y = withMessage(216, 3, 100, 3);
        Make.fill(y, 0, 226, 3);
        y.put(0, 0, 1);
        y.put(1, 0, 2);
        y.put(2, 0, 10);
        refused("8 of the last", y, 3, true, 8, 300);
        y.put(2, 0, 9);
        refused("10 then", y, 3, true, 10, 100);
    }

    // ---- LEAST and W

    /** "W is 0, and nothing follows, if ..; else the least with which ..": every two raw numbers of width 5. */
    private static void leastAndSpreadOfTwo() {
        for (int a = 0; a < 32; a++) {
            for (int b = 0; b < 32; b++) {
                Counted x = Make.template(3);
                x.put(0, 0, a == 31 ? MISSING : a);
                x.put(1, 0, b == 31 ? MISSING : b);
                written("raw " + a + " and " + b, x, 2, true, packed(5, a, b));
            }
        }
    }

    /** The bits of a field, as the text says them; raws of all ones are MISSING. */
    private static String packed(int width, long... raws) {
        long ones = (1L << width) - 1;
        long least = ones;
        long most = -1;
        boolean missing = false;
        for (long raw : raws) {
            missing |= raw == ones;
            least = Math.min(least, raw);
            most = raw == ones ? most : Math.max(most, raw);
        }
        int w = 0;
        if (most >= 0 && (missing || most > least)) {
            w = 1;
            while ((1L << w) - 1 <= most - least) {
                w++;
            }
        }
        StringBuilder bits = new StringBuilder(binary(least, width) + binary(w, 6));
        for (long raw : raws) {
            bits.append(w == 0 ? "" : binary(raw == ones ? (1L << w) - 1 : raw - least, w));
        }
        return bits.toString();
    }

    private static String binary(long v, int width) {
        String s = Long.toBinaryString(v);
        return "0".repeat(width - s.length()) + s;
    }

    /** "LEAST, the least raw number but MISSING ones": each W from 1 to 32, with and without MISSING, and 8 subsets. */
    private static void leastAndSpreadOfMany() {
        long ones = (1L << 32) - 1;
        for (int w = 1; w <= 32; w++) {
            long most = (1L << w) - 2;
            for (long least : new long[] {0, ones - 1 - most}) {
                for (long difference : new long[] {most, most / 2, (1L << w - 1) - 1}) {
                    Counted x = Make.template(2);
                    x.put(0, 0, least + difference);
                    x.put(1, 0, least);
                    x.put(2, 0, MISSING);
                    written("W " + w, x, 2, true, packed(32, least + difference, least));
                    written("W " + w + " with MISSING", x, 3, true, packed(32, least + difference, least, ones));
                }
            }
        }
        Counted x = Make.template(3);
        for (int s = 0; s < 8; s++) {
            x.put(s, 0, s == 3 ? MISSING : 20 + s % 5);
        }
        written("8 subsets", x, 8, true, "10100 000011 000 001 010 111 100 000 001 010");
        for (int s = 0; s < 8; s++) {
            x.put(s, 0, s == 7 ? 5 : MISSING);
        }
        written("all but one MISSING", x, 8, true, "00101 000001 1111111 0");
        x.put(7, 0, MISSING);
        written("all MISSING", x, 8, true, "11111 000000");
        for (int s = 0; s < 8; s++) {
            x.put(s, 0, 30);
        }
        written("all the greatest", x, 8, true, "11110 000000");
    }

    /** COUNT and BIT are the same in all subsets: W 0, and a BIT of 1 is not MISSING. */
    private static void countAndBitPacked() {
        for (int bit = 0; bit <= 1; bit++) {
            Counted x = Make.template(216, 3, 3, 501);
            for (int s = 0; s < 2; s++) {
                Make.values(x, s, 1, 4, bit);
            }
            written("BIT " + bit, x, 2, true, "00001 000000 00100 000000 " + bit + " 000000");
        }
    }

    // ---- the message

    /** "how many bits there are, two bytes, the higher one first; .. and as many 0 as fill the last byte". */
    private static void bitCounts() {
        for (int bits = 0; bits <= 24; bits++) {
            Counted x = Make.withElements();
            for (int i = 0; i < bits; i++) {
                x.append(-1, 1);
            }
            Checks.due(bits + " bits", () -> x.write(1, false), 4 + (bits + 7) / 8);
            Checks.due(bits + " bits, head", x.byteAt(2) + " " + x.byteAt(3), "0 " + bits);
            for (int b = 0; b < (bits + 7) / 8; b++) {
                int used = Math.min(8, bits - 8 * b);
                Checks.due(bits + " bits, byte " + b, x.byteAt(4 + b), 256 - (256 >> used));
            }
        }
        for (int fields = 50; fields <= 53; fields++) {
            Counted x = Make.template(221, 100, 216 + Math.max(1, fields - 50), 3);
            Make.fill(x, 0, 226, 3);
            if (fields == 50) {
                Make.refill(x, 221, 100);
            }
            int bits = 5 * fields;
            Checks.due(bits + " bits", () -> x.write(1, false), 4 + (bits + 7) / 8);
            Checks.due(bits + " bits, head", x.byteAt(2) + " " + x.byteAt(3), bits / 256 + " " + bits % 256);
        }
        for (int more = 0; more <= 2; more++) {
            Counted x = Make.template(224, 2);
            for (int i = 0; i < more; i++) {
                x.append(-1, 1);
            }
            if (more == 0) {
                Make.refill(x, 223, 2, 415, 2, 400);
            }
            int bits = more == 0 ? 255 : 256 + more;
            Checks.due(bits + " bits", () -> x.write(1, false), 4 + (bits + 7) / 8);
            Checks.due(bits + " bits, head", x.byteAt(2) + " " + x.byteAt(3), bits / 256 + " " + bits % 256);
        }
        Counted x = Make.template(224, 2);
        Checks.due("256 bits", () -> x.write(1, false), 36);
        Checks.due("256 bits, head", x.byteAt(2) + " " + x.byteAt(3), "1 0");
    }

    /** "Byte i of the message; NONE if there is none": a shorter message leaves nothing of a longer one. */
    private static void bytesOfTheMessage() {
        Counted x = Make.template(2, 2);
        for (int i : new int[] {-1, 0, 1, 4, Integer.MIN_VALUE, Integer.MAX_VALUE}) {
            Checks.due("no message, byte " + i, x.byteAt(i), -1);
        }
        x.write(3, false);
        Checks.due("the last byte", x.byteAt(27) + " " + x.byteAt(28), "255 -1");
        for (int i : new int[] {-1, -2, 29, 3678, 3679, 5000, Integer.MIN_VALUE, Integer.MAX_VALUE}) {
            Checks.due("byte " + i, x.byteAt(i), -1);
        }
        Make.refill(x, 3);
        x.put(0, 0, 0);
        x.write(1, false);
        Checks.due("a shorter one", Make.message(x), "66 1 0 5 0");
        Checks.due("nothing of the longer one", x.byteAt(5) + " " + x.byteAt(27), "-1 -1");
        x.put(0, 0, 9);
        Checks.due("a value changes nothing", x.byteAt(4), 0);
        x.clear(-1);
        x.write(8, true);
        Checks.due("no fields", Make.message(x), "67 8 0 0");
    }
}
