import java.util.Arrays;

/** Promises 17 and 18 at their edges: the tape's length, FAULT 11 and 12 on both sides, what comes ahead of what. */
public final class ReadEdgesTest {
    private static final String ILLEGAL = "IllegalArgumentException";
    private static final long MISSING = ObsMessages.MISSING;

    public static void main(String[] args) {
        tapeLength();
        tapeIsEmptyThen();
        templateFaults();
        fault11Heads();
        fault11Lengths();
        fault11BitsBehind();
        fault12BitsReachBeyond();
        fault12BitsLeft();
        fault12OfPacked();
        fault12Differences();
        fault12OfCountAndBit();
        fault6();
        fault7();
        fault8();
        nothingOfAnEarlierRead();
        Checks.end("ReadEdgesTest");
    }

    // ---- how a case is told: on a new object, so that every call is within what is promised

    private static void taken(String what, Counted x, int... bytes) {
        Make.feed(x, bytes);
        Checks.due(what + ", is read", () -> x.read(), bytes[1]);
        Checks.due(what + ", has no fault", Make.fault(x), "0 at -1");
    }

    /** A refused message: its FAULT and place, all values stay, the tape is empty. */
    private static void refused(String what, Counted x, int number, int place, int... bytes) {
        for (int s = 0; s < 8; s++) {
            x.put(s, 0, 100 + s);
            x.put(s, 99, -s);
        }
        Make.feed(x, bytes);
        Checks.due(what, () -> x.read(), ILLEGAL);
        Checks.due(what + ", fault", Make.fault(x), number + " at " + place);
        for (int s = 0; s < 8; s++) {
            Checks.due(what + ", all values stay", x.get(s, 0) + " " + x.get(s, 1) + " " + x.get(s, 99),
                    (100 + s) + " " + MISSING + " " + -s);
        }
        Checks.due(what + ", the tape is empty", x.feed(0, 1), 1);
    }

    private static void plain(String what, Counted x, int n, String bits) {
        taken(what, x, Make.bytesOf(66, n, bits));
    }

    private static void packed(String what, Counted x, int n, String bits) {
        taken(what, x, Make.bytesOf(67, n, bits));
    }

    private static void noPlain(String what, Counted x, int n, String bits, int number, int place) {
        refused(what, x, number, place, Make.bytesOf(66, n, bits));
    }

    private static void noPacked(String what, Counted x, int n, String bits, int number, int place) {
        refused(what, x, number, place, Make.bytesOf(67, n, bits));
    }

    // ---- feed

    /** "the lowest n (1 .. 4) bytes", "NONE, and nothing comes, for another n, or more than 1000". */
    private static void tapeLength() {
        for (int n : new int[] {0, -1, 5, 8, Integer.MIN_VALUE, Integer.MAX_VALUE}) {
            Counted x = new Counted();
            Checks.due("n " + n, x.feed(1, n), -1);
            Checks.due("nothing came for n " + n, x.feed(1, 1), 1);
        }
        for (int n = 1; n <= 4; n++) {
            Checks.due("n " + n, new Counted().feed(1, n), n);
        }
        for (int free = 0; free <= 4; free++) {
            for (int n = 1; n <= 4; n++) {
                Counted x = fed(1000 - free);
                Checks.due(n + " bytes with room for " + free, x.feed(0, n), n <= free ? 1000 - free + n : -1);
                int left = n <= free ? free - n : free;
                Checks.due("one more", x.feed(0, 1), left > 0 ? 1000 - left + 1 : -1);
            }
        }
    }

    private static Counted fed(int bytes) {
        Counted x = new Counted();
        int length = 0;
        while (length < bytes) {
            length = x.feed(0, Math.min(4, bytes - length));
        }
        return x;
    }

    /** "The tape, which is empty then": read or refused, for each kind of FAULT; a refused feed leaves what is there. */
    private static void tapeIsEmptyThen() {
        Counted x = fed(1000);
        Checks.due("1000 bytes of no message", () -> x.read(), ILLEGAL);
        Checks.due("1000 bytes of no message", Make.fault(x), "11 at -1");
        Checks.due("room again", x.feed(0, 4), 4);
        Counted y = Make.template(3);
        taken("a message", y, 66, 1, 0, 5, 8);
        Checks.due("empty when it was read", y.feed(66, 1), 1);
        Checks.due("nothing of it comes for n 5", y.feed(0, 5), -1);
        y.feed(1, 1);
        y.feed(5, 2);
        y.feed(16, 1);
        Checks.due("what came stays", () -> y.read(), 1);
        Checks.due("its value", y.get(0, 0), 2);
        // 996 * 8 bits: 15 * 5 + 8 fields of 32 bits in 3 subsets
        Counted z = Make.template(231, 100, 224, 2);
        Make.fill(z, 0, 221, 2);
        taken("a message of 1000 bytes", z, Make.bytesOf(66, 3, "0".repeat(7968)));
        Checks.due("its last value", z.get(2, 82) + " " + z.get(2, 83), "0 " + MISSING);
    }

    /** "what is walked, is compiled first: FAULTs 1 .. 5, ahead of all that follows". */
    private static void templateFaults() {
        int[][] templates = {{0, 63}, {0, 0, 115}, {233, 0}, {0, 400}, {408, 0, 400}};
        int[] numbers = {1, 1, 3, 4, 5};
        int[] places = {1, 2, 0, 1, 1};
        int[][] messages = {{}, {66}, {65, 1, 0, 0}, {66, 0, 0, 0}, {66, 1, 0, 8}, {66, 1, 0, 7, 1}, {66, 1, 0, 0},
                {66, 1, 0, 8, 0}, {67, 1, 0, 0}};
        for (int t = 0; t < templates.length; t++) {
            for (int[] m : messages) {
                refused("template " + t + ", bytes " + Arrays.toString(m), Make.template(templates[t]), numbers[t],
                        places[t], m);
            }
        }
        Counted x = Make.template(0, 100);
        x.append(0, 100);
        refused("a sequence within itself", x, 2, 1, 66);
    }

    // ---- FAULT 11

    /** "fewer than 4 bytes, a first one not 66 or 67, n not 1 .. 8". */
    private static void fault11Heads() {
        refused("no bytes", new Counted(), 11, -1);
        refused("1 byte", new Counted(), 11, -1, 66);
        refused("2 bytes", new Counted(), 11, -1, 66, 1);
        refused("3 bytes", new Counted(), 11, -1, 66, 1, 0);
        taken("4 bytes", new Counted(), 66, 1, 0, 0);
        for (int first : new int[] {0, 65, 68, 194, 255}) {
            refused("first byte " + first, new Counted(), 11, -1, first, 1, 0, 0);
        }
        taken("first byte 67", new Counted(), 67, 1, 0, 0);
        for (int form = 66; form <= 67; form++) {
            for (int n : new int[] {0, 9, 10, 128, 255}) {
                refused("n " + n, new Counted(), 11, -1, form, n, 0, 0);
            }
            for (int n = 1; n <= 8; n++) {
                taken("n " + n, new Counted(), form, n, 0, 0);
            }
        }
    }

    /** "or not as many bytes as the bits need": one fewer and one more, at each count of bits in the last byte. */
    private static void fault11Lengths() {
        for (int bits = 1; bits <= 17; bits++) {
            int need = (bits + 7) / 8;
            int[] message = {66, 1, 0, bits, 0, 0, 0, 0};
            refused("a byte fewer for " + bits, narrow(bits), 11, -1, Arrays.copyOf(message, 4 + need - 1));
            refused("a byte more for " + bits, narrow(bits), 11, -1, Arrays.copyOf(message, 4 + need + 1));
            taken("as many for " + bits, narrow(bits), Arrays.copyOf(message, 4 + need));
        }
        refused("a byte for no bits", new Counted(), 11, -1, 66, 1, 0, 0, 0);
        refused("256 bits, the higher byte first", new Counted(), 11, -1, 66, 1, 1, 0, 0);
        noPlain("256 bits, and 32 bytes", new Counted(), 1, "0".repeat(256), 12, 0);
        refused("65535 bits", new Counted(), 11, -1, 66, 1, 255, 255, 0);
        refused("FAULT 11 ahead of 12", Make.template(2), 11, -1, 66, 1, 0, 5, 0, 0);
    }

    /** A template of some fields of width 1. */
    private static Counted narrow(int bits) {
        Counted x = Make.withElements();
        for (int i = 0; i < bits; i++) {
            x.append(-1, 1);
        }
        return x;
    }

    /** "or bits behind them that are not 0": each bit behind each count. */
    private static void fault11BitsBehind() {
        for (int bits = 1; bits <= 8; bits++) {
            for (int bit = 0; bit < 8; bit++) {
                int[] message = {66, 1, 0, bits, 128 >> bit};
                if (bit < bits) {
                    taken("bit " + bit + " of " + bits, narrow(bits), message);
                } else {
                    refused("bit " + bit + " behind " + bits, narrow(bits), 11, -1, message);
                }
            }
        }
    }

    // ---- FAULT 12

    /** "FAULT 12 at the field whose bits reach beyond the end": a bit fewer than each field needs, and just as many. */
    private static void fault12BitsReachBeyond() {
        for (int bits = 0; bits < 17; bits++) {
            noPlain(bits + " bits of 17", Make.template(3, 4), 1, "0".repeat(bits), 12, bits < 5 ? 0 : 1);
        }
        plain("17 bits of 17", Make.template(3, 4), 1, "0".repeat(17));
        for (int bits = 17; bits < 34; bits++) {
            noPlain(bits + " bits of 34", Make.template(3, 4), 2, "0".repeat(bits), 12, bits < 22 ? 100 : 101);
        }
        plain("34 bits of 34", Make.template(3, 4), 2, "0".repeat(34));
        noPlain("a bit fewer for the eighth", Make.template(3, 4), 8, "0".repeat(8 * 17 - 1), 12, 701);
        plain("enough for the eighth", Make.template(3, 4), 8, "0".repeat(8 * 17));
        String whole = "00010 000010 01 00 11 000000000000 000000";
        String bits = whole.replace(" ", "");
        for (int n = 0; n < bits.length(); n++) {
            noPacked(n + " bits of " + bits.length(), Make.template(3, 4), 3, bits.substring(0, n), 12,
                    n < 17 ? 0 : 1);
        }
        packed("all bits", Make.template(3, 4), 3, whole);
        noPlain("no bits for the 100th field", hundred(), 1, "0".repeat(99), 12, 99);
        plain("bits for 100 fields", hundred(), 1, "0".repeat(100));
    }

    /** A template of 100 fields of width 1. */
    private static Counted hundred() {
        Counted x = Make.template(226, 100);
        Make.fill(x, 0, 226, 1);
        return x;
    }

    /** "FAULT 12 at the field behind the last one (PLAIN: of the last subset) if bits are left". */
    private static void fault12BitsLeft() {
        for (int n = 1; n <= 8; n++) {
            plain("none left of " + n, Make.template(3), n, "0".repeat(5 * n));
            noPlain("one left behind " + n, Make.template(3), n, "0".repeat(5 * n + 1), 12, 100 * (n - 1) + 1);
            noPacked("one left behind " + n + ", PACKED", Make.template(3), n, "00000 000000 0", 12, 1);
            noPlain("no fields, but a bit, " + n, new Counted(), n, "0", 12, 100 * (n - 1));
            noPacked("no fields, but a bit, PACKED " + n, new Counted(), n, "0", 12, 0);
        }
        noPlain("as many left as another field has", Make.template(3), 1, "0000000000", 12, 1);
        noPlain("a bit that is 1", Make.template(3), 1, "000001", 12, 1);
        noPlain("behind the 100th field", hundred(), 1, "0".repeat(101), 12, 100);
        noPlain("behind the 100th field of the last", hundred(), 3, "0".repeat(301), 12, 300);
        noPacked("behind the 100th field, PACKED", hundred(), 3, "0 000000".repeat(100) + "0", 12, 100);
    }

    /** "(PACKED) whose W is above 33". */
    private static void fault12OfPacked() {
        for (int w = 0; w <= 63; w++) {
            String spread = String.format("%6s", Integer.toBinaryString(w)).replace(' ', '0');
            String bits = "00001" + spread + "0".repeat(2 * w);
            if (w <= 33) {
                packed("W " + w, Make.template(3), 2, bits);
            } else {
                noPacked("W " + w, Make.template(3), 2, bits, 12, 0);
            }
        }
        noPacked("W 34 of the second field", Make.template(3, 3), 1, "00000 000000 00000 100010" + "0".repeat(34), 12, 1);
        packed("W 33, MISSING", Make.template(3), 1, "00000 100001" + "1".repeat(33));
    }

    /** "whose LEAST with a difference is more than 2^width - 2 (one that is MISSING aside)". */
    private static void fault12Differences() {
        Counted x = Make.template(3);
        packed("30 in width 5", x, 2, "11100 000010 10 11");
        Checks.due("30 in width 5", Make.row(x, 0, 1) + "|" + Make.row(x, 1, 1), "30|-");
        noPacked("31 in width 5", Make.template(3), 2, "11101 000010 10 11", 12, 0);
        noPacked("31 in width 5, of the last", Make.template(3), 2, "11101 000010 00 10", 12, 0);
        noPacked("32 in width 5", Make.template(3), 2, "11110 000010 00 10", 12, 0);
        packed("LEAST 30 and difference 0", Make.template(3), 2, "11110 000001 0 1");
        noPacked("LEAST is MISSING, and difference 0", Make.template(3), 2, "11111 000001 0 1", 12, 0);
        Counted y = Make.template(3);
        packed("LEAST is MISSING, and so are all differences", y, 2, "11111 000001 1 1");
        Checks.due("all are MISSING", Make.row(y, 0, 1) + "|" + Make.row(y, 1, 1), "-|-");
        noPacked("far more than the width", Make.template(3), 1, "00001 100001 " + "1".repeat(32) + "0", 12, 0);
        packed("width 1: difference 0", Make.template(1), 2, "0 000001 0 1");
        noPacked("width 1: difference 1", Make.template(1), 2, "0 000010 01 00", 12, 0);
        Counted z = Make.template(2);
        packed("width 32", z, 2, "0".repeat(32) + "100000" + "1".repeat(31) + "0" + "1".repeat(32));
        Checks.due("width 32", Make.row(z, 0, 1) + "|" + Make.row(z, 1, 1), "4294967294|-");
        noPacked("width 32, one more", Make.template(2), 1, "0".repeat(31) + "1 100000" + "1".repeat(31) + "0", 12, 0);
        noPacked("width 32, W 33", Make.template(2), 1, "0".repeat(32) + "100001 0" + "1".repeat(32), 12, 0);
        packed("width 32, W 33", Make.template(2), 1, "0".repeat(32) + "100001 0" + "1".repeat(31) + "0");
        noPacked("the raw number counts, not the value", Make.template(5), 1, "1".repeat(20) + "000001 0", 12, 0);
    }

    /** "or that is COUNT or BIT and W is not 0, or LEAST is MISSING for a COUNT". */
    private static void fault12OfCountAndBit() {
        String first = "00000 000000 ";
        String rest = " 000000000000 000000 ";
        packed("a COUNT and a BIT", counted(), 2, first + "00001 000000" + rest + "0 000000");
        noPacked("a COUNT with W 1", counted(), 2, first + "00001 000001 0 0" + rest + "0 000000", 12, 1);
        noPacked("a COUNT with W 1, all MISSING", counted(), 2, first + "00001 000001 1 1" + rest + "0 000000", 12, 1);
        noPacked("a COUNT with W 33", counted(), 1, first + "00001 100001" + "0".repeat(33) + rest + "0 000000", 12, 1);
        noPacked("a COUNT with W, ahead of FAULT 6", counted(), 1, first + "00000 000001 0", 12, 1);
        noPacked("a COUNT that is MISSING", counted(), 2, first + "11111 000000" + rest + "0 000000", 12, 1);
        noPlain("a COUNT that is MISSING, PLAIN, is FAULT 6", counted(), 1, "00000 11111", 6, 1);
        Counted x = counted();
        packed("COUNT 30 is not MISSING", x, 1, first + "11110 000000" + rest.repeat(30) + "0 000000");
        Checks.due("COUNT 30", x.get(0, 1), 30);
        noPacked("a BIT with W 1", counted(), 2, first + "00001 000000" + rest + "0 000001 0 0", 12, 3);
        noPacked("a BIT with W 1, all ones", counted(), 2, first + "00001 000000" + rest + "0 000001 1 1", 12, 3);
        Counted y = counted();
        packed("a BIT that is 1 is not MISSING", y, 2, first + "00001 000000" + rest + "1 000000");
        Checks.due("BIT 1", Make.row(y, 0, 5) + "|" + Make.row(y, 1, 5), "0 1 10 1 -|0 1 10 1 -");
        Counted z = counted();
        plain("a BIT that is 1, PLAIN", z, 1, "00000 00001 000000000000 1");
        Checks.due("BIT 1, PLAIN", Make.row(z, 0, 5), "0 1 10 1 -");
    }

    private static Counted counted() {
        return Make.template(3, 216, 3, 4, 501);
    }

    // ---- FAULTs 6 to 8 as above

    /** "FAULTs 6 to 8 as above": a COUNT's value as it is read. */
    private static void fault6() {
        noPlain("COUNT 0", Make.template(216, 3, 1), 1, "00000 0", 6, 0);
        plain("COUNT 1", Make.template(216, 3, 1), 1, "00001 0");
        plain("COUNT 30", Make.template(216, 3, 1), 1, "11110" + "0".repeat(30));
        noPlain("COUNT 31", Make.template(216, 0, 1), 1, "00011111" + "0".repeat(31), 6, 0);
        noPlain("COUNT 0 of the second", Make.template(216, 3, 1), 2, "00001 0 00000 0", 6, 100);
        noPlain("COUNT 0 of the eighth", Make.template(216, 3, 1), 8, "00001 0".repeat(7) + "00000", 6, 700);
        noPacked("COUNT 0, PACKED", Make.template(216, 3, 1), 2, "00000 000000", 6, 0);
        noPacked("COUNT 31, PACKED", Make.template(216, 0, 1), 2, "00011111 000000", 6, 0);
        packed("COUNT 30, PACKED", Make.template(216, 0, 1), 2, "00011110 000000" + "0 000000".repeat(30));
        noPlain("a COUNT below 1 by its reference", Make.template(216, 5, 1), 1, "0".repeat(18) + "11 0", 6, 0);
        plain("a COUNT of 1 by its reference", Make.template(216, 5, 1), 1, "0".repeat(17) + "100 0");
        noPlain("no bits for a COUNT come first", Make.template(216, 3, 1), 1, "0000", 12, 0);
    }

    /** "FAULTs 6 to 8 as above": BITS and MARK, before their bits are read. */
    private static void fault7() {
        plain("as many fields as BITS", Make.template(3, 501), 1, "00000 0");
        noPlain("fewer fields than BITS", Make.template(3, 502), 1, "00000 00", 7, 1);
        noPlain("fewer fields, before bits are read", Make.template(3, 502), 1, "00000", 7, 1);
        noPacked("fewer fields than BITS, PACKED", Make.template(3, 502), 3, "00000 000000", 7, 1);
        plain("one is pointed at", Make.template(3, 501, 520), 1, "00000 1 00000");
        noPlain("none is pointed at", Make.template(3, 501, 520), 1, "00000 0 00000", 7, 2);
        noPlain("none of the second", Make.template(3, 501, 520), 2, "00000 1 00000 00000 0 00000", 7, 102);
        noPacked("none is pointed at, PACKED", Make.template(3, 501, 520), 2, "00000 000000 0 000000", 7, 2);
        packed("one is pointed at, PACKED", Make.template(3, 501, 520), 2,
                "00000 000000 1 000000 00000 000001 0 1");
    }

    /** "FAULTs 6 to 8 as above": the 101st field and the 2001st descriptor, whatever bits are left. */
    private static void fault8() {
        Counted x = hundred();
        x.append(-1, 1);
        noPlain("the 101st field", x, 1, "0".repeat(101), 8, 100);
        Counted y = hundred();
        y.append(-1, 1);
        noPlain("the 101st field, without bits for it", y, 1, "0".repeat(100), 8, 100);
        Counted z = hundred();
        z.append(-1, 1);
        noPacked("the 101st field, PACKED", z, 2, "0 000000".repeat(101), 8, 100);
        Counted u = Make.template(231, 100, 1);
        Make.fill(u, 0, 231, 101);
        Make.fill(u, 1, 247, 416, 400);
        noPlain("the 2001st descriptor", u, 1, "0", 8, 0);
    }

    /** A message is read as if it were the first, whatever came of those before it. */
    private static void nothingOfAnEarlierRead() {
        Counted x = Make.template(3, 4);
        noPlain("bits are left", x, 2, "0".repeat(35), 12, 102);
        Checks.due("a byte of it is no message", () -> x.read(), ILLEGAL);
        plain("a right one", x, 1, "00001 000000000001");
        Checks.due("its values", Make.row(x, 0, 3) + "|" + Make.row(x, 1, 3), "1 11 -|- - -");
        packed("a right one, PACKED", x, 2, "00010 000000 000000000010 000001 0 1");
        Checks.due("its values", Make.row(x, 0, 3) + "|" + Make.row(x, 1, 3), "2 12 -|2 - -");
        plain("PLAIN again", x, 1, "00011 111111111111");
        Checks.due("its values", Make.row(x, 0, 3) + "|" + Make.row(x, 1, 3), "3 - -|- - -");
        Make.refill(x, 3);
        plain("fewer fields", x, 1, "00100");
        Checks.due("its values", Make.row(x, 0, 3) + "|" + Make.row(x, 1, 3), "4 - -|- - -");
    }
}
