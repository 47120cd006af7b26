/** Promises 17 and 18: the tape, what is read, and FAULTs 11 and 12. */
public final class ReadTest {
    private static final String ILLEGAL = "IllegalArgumentException";
    private static final long MISSING = ObsMessages.MISSING;

    public static void main(String[] args) {
        tape();
        plain();
        packed();
        packedSpreads();
        othersBecomeMissing();
        fault11();
        fault12Plain();
        fault12Packed();
        walkFaults();
        templateFaults();
        Checks.end("ReadTest");
    }

    private static void tape() {
        ObsMessages x = new ObsMessages();
        Checks.due("one byte", x.feed(0x11223344, 1), 1);
        Checks.due("two bytes", x.feed(0x11223344, 2), 3);
        Checks.due("three bytes", x.feed(-1, 3), 6);
        Checks.due("four bytes", x.feed(0x11223344, 4), 10);
        for (int n : new int[] {0, -1, 5, Integer.MIN_VALUE, Integer.MAX_VALUE}) {
            Checks.due("n " + n, () -> x.feed(1, n), -1);
        }
        Checks.due("nothing came", x.feed(0, 1), 11);
        for (int length = 15; length <= 999; length += 4) {
            Checks.due("four more", x.feed(0, 4), length);
        }
        Checks.due("999 and 2", x.feed(0, 2), -1);
        Checks.due("999 and 1", x.feed(0, 1), 1000);
        Checks.due("more than 1000", x.feed(0, 1), -1);
        Checks.due("a message of 1000 bytes is none", () -> x.read(), ILLEGAL);
        Checks.due("empty then", x.feed(0, 2), 2);
        for (int i = 0; i < 249; i++) {
            x.feed(0, 4);
        }
        Checks.due("998 and 3", x.feed(0, 3), -1);
        Checks.due("998 and 2", x.feed(0, 2), 1000);
    }

    private static void taken(String what, ObsMessages x, int form, int n, String bits) {
        Make.feedBits(x, form, n, bits);
        Checks.due(what, () -> x.read(), n);
        Checks.due(what + ", fault", Make.fault(x), "0 at -1");
        Checks.due(what + ", the tape is empty", x.feed(0, 1), 1);
        Checks.of(() -> x.read());
    }

    private static void faulty(String what, ObsMessages x, int number, int place) {
        String before = values(x);
        Checks.due(what, () -> x.read(), ILLEGAL);
        Checks.due(what + ", fault", Make.fault(x), number + " at " + place);
        Checks.due(what + ", all values stay", values(x), before);
        Checks.due(what + ", the tape is empty", x.feed(0, 1), 1);
        Checks.of(() -> x.read());
    }

    private static void refused(String what, ObsMessages x, int form, int n, String bits, int place) {
        Make.feedBits(x, form, n, bits);
        faulty(what, x, 12, place);
    }

    private static String values(ObsMessages x) {
        StringBuilder s = new StringBuilder();
        for (int subset = 0; subset < 8; subset++) {
            s.append(subset == 0 ? "" : " | ");
            int last = 99;
            while (last >= 0 && x.get(subset, last) == MISSING) {
                last--;
            }
            for (int i = 0; i <= last; i++) {
                s.append(i == 0 ? "" : " ").append(x.get(subset, i) == MISSING ? "-" : x.get(subset, i));
            }
        }
        return s.toString().replaceAll("[ |]+$", "");
    }

    private static void plain() {
        ObsMessages x = Make.template(3, 4);
        taken("one subset", x, 66, 1, "00101 000000000001");
        Checks.due("its values", values(x), "5 11");
        taken("two subsets", x, 66, 2, "00000 111111111110 11111 111111111111");
        Checks.due("their values", values(x), "0 4104");
        taken("three subsets", x, 66, 3, "11111 000000000000 11110 111111111111 00001 000000000010");
        Checks.due("their values", values(x), "- 10 | 30 | 1 12");
        ObsMessages y = Make.template(463, 216, 5, 3, 460, 502, 520);
        taken("all kinds, and another COUNT", y, 66, 2, "00000000000000000101 110 00001 111 11110 1 0 00111"
                + "00000000000000000110 001 00001 001 00010 001 00011 0 1 11111");
        Checks.due("their values", values(y), "2 6 1 - 30 1 0 7 | 3 1 1 1 2 1 3 0 1");
        ObsMessages z = Make.template(1, 2, 482, 5, 480);
        taken("wide and narrow", z, 66, 1, "1 " + "1".repeat(31) + "0" + "0".repeat(20));
        Checks.due("their values", values(z), "- 4294967294 -12");
        z.clear(-1);
        taken("no fields", z, 66, 8, "");
        Checks.due("no values", values(z), "");
    }

    private static void packed() {
        ObsMessages x = Make.template(3, 4);
        taken("W 0", x, 67, 2, "00100 000000 000000000011 000000");
        Checks.due("their values", values(x), "4 13 | 4 13");
        taken("W 0, MISSING", x, 67, 2, "11111 000000 000000000011 000000");
        Checks.due("their values", values(x), "- 13 | - 13");
        taken("W 3 and 1", x, 67, 3, "00100 000011 000 110 111  000000000010 000001 1 0 1");
        Checks.due("their values", values(x), "4 | 10 12");
        ObsMessages y = Make.template(463, 216, 5, 3, 460, 502, 520);
        taken("all kinds", y, 67, 2, "00000000000000000101 000000  101 000010 01 00  00001 000000  011 000001 1 0"
                + "  11110 000001 0 1  1 000000  0 000000  00111 000000");
        Checks.due("their values", values(y), "2 6 1 - 30 1 0 7 | 2 5 1 3 - 1 0 7");
        y.clear(-1);
        taken("no fields", y, 67, 3, "");
    }

    private static void packedSpreads() {
        ObsMessages x = Make.template(3);
        taken("W wider than it need be", x, 67, 2, "00000 100000 " + "0".repeat(30) + "10 " + "1".repeat(32));
        Checks.due("their values", values(x), "2");
        taken("W 33", x, 67, 2, "00001 100001 " + "0".repeat(28) + "11101 " + "1".repeat(33));
        Checks.due("their values", values(x), "30");
        refused("W 34", x, 67, 2, "00001 100010 " + "0".repeat(68), 0);
        refused("W 63", x, 67, 1, "00001 111111 " + "0".repeat(63), 0);
        taken("the greatest", x, 67, 2, "00001 011111 " + "0".repeat(26) + "11101 " + "1".repeat(31));
        refused("one more", x, 67, 2, "00001 011111 " + "0".repeat(26) + "11110 " + "1".repeat(31), 0);
        refused("LEAST is MISSING, with a difference", x, 67, 2, "11111 000001 0 1", 0);
        taken("LEAST is MISSING, and all differences", x, 67, 2, "11111 000001 1 1");
        Checks.due("their values", values(x), "");
        refused("far more", x, 67, 1, "00001 100001 " + "1".repeat(32) + "0", 0);
        ObsMessages y = Make.template(2);
        taken("width 32", y, 67, 2, "0".repeat(32) + "100000" + "1".repeat(31) + "0" + "1".repeat(32));
        Checks.due("their values", values(y), "4294967294");
        refused("width 32, one more", y, 67, 1, "0".repeat(31) + "1 100000" + "1".repeat(31) + "0", 0);
    }

    private static void othersBecomeMissing() {
        ObsMessages x = Make.template(3, 4);
        for (int s = 0; s < 8; s++) {
            for (int i = 0; i < 10; i++) {
                x.put(s, 11 * i, 100 * s + i);
            }
        }
        taken("two subsets", x, 66, 2, "00101 000000000001 00111 000000000010");
        Checks.due("all others are MISSING", values(x), "5 11 | 7 12");
    }

    private static void fault11() {
        ObsMessages x = Make.template(3);
        x.put(0, 0, 9);
        faulty("nothing", x, 11, -1);
        int[][] wrong = {{66}, {66, 1, 0}, {65, 1, 0, 5, 0}, {68, 1, 0, 5, 0}, {0, 1, 0, 5, 0}, {66, 0, 0, 0},
                {66, 9, 0, 45, 0, 0, 0, 0, 0, 0}, {66, 255, 0, 5, 0}, {66, 1, 0, 5}, {66, 1, 0, 5, 0, 0},
                {66, 1, 1, 5, 0}, {66, 1, 0, 9, 0}, {66, 1, 0, 5, 4}, {66, 1, 0, 5, 1}, {66, 1, 0, 5, 7},
                {67, 1, 0, 11, 0, 1}, {66, 1, 0, 0, 0}, {66, 1, 255, 255, 0}};
        for (int[] w : wrong) {
            Make.feed(x, w);
            faulty("bytes " + java.util.Arrays.toString(w), x, 11, -1);
        }
        Make.feed(x, 66, 1, 0, 5, 8);
        Checks.due("a right one", () -> x.read(), 1);
        Checks.due("a right one", values(x), "1");
        Make.feed(x, 66, 1, 0, 0);
        faulty("no bits: right as a message, but not for the template", x, 12, 0);
    }

    private static void fault12Plain() {
        ObsMessages x = Make.template(3, 4);
        Make.values(x, 3, 1, 2, 3);
        refused("no bits", x, 66, 1, "", 0);
        refused("4 bits", x, 66, 1, "0000", 0);
        refused("one field", x, 66, 1, "00000", 1);
        refused("one bit too few", x, 66, 1, "00000 00000000000", 1);
        refused("one bit too many", x, 66, 1, "00000 000000000000 0", 2);
        refused("the second subset", x, 66, 2, "00000 000000000000 0", 100);
        refused("its second field", x, 66, 2, "00000 000000000000 00000", 101);
        refused("behind the last subset", x, 66, 2, "00000 000000000000 00000 000000000000 0", 102);
        refused("of eight", x, 66, 8, "0".repeat(8 * 17 + 8), 702);
        x.clear(-1);
        refused("no fields, but bits", x, 66, 3, "0", 200);
        refused("no fields, but bits, PACKED", x, 67, 3, "0", 0);
    }

    private static void fault12Packed() {
        ObsMessages x = Make.template(3, 4);
        Make.values(x, 3, 1, 2, 3);
        refused("no LEAST", x, 67, 1, "0000", 0);
        refused("no W", x, 67, 1, "00000 00000", 0);
        refused("no differences", x, 67, 2, "00000 000001 0", 0);
        refused("one bit of a difference too few", x, 67, 2, "00000 000011 000 00", 0);
        refused("no second field", x, 67, 2, "00000 000001 0 0", 1);
        refused("bits are left", x, 67, 2, "00000 000001 0 0 000000000000 000000 0", 2);
        Make.refill(x, 3, 216, 3, 4, 501);
        String first = "00000 000000 ";
        refused("a COUNT with W", x, 67, 1, first + "00001 000001 0 000000000000 000000 0 000000", 1);
        refused("a COUNT with W, all MISSING", x, 67, 1, first + "00001 000001 1 000000000000 000000 0 000000", 1);
        refused("a COUNT that is MISSING", x, 67, 1, first + "11111 000000 000000000000 000000 0 000000", 1);
        refused("a BIT with W", x, 67, 1, first + "00001 000000 000000000000 000000 0 000001 0", 3);
        taken("a BIT that is 1 is not MISSING", x, 67, 2, first + "00001 000000 000000000000 000000 1 000000");
        Checks.due("their values", values(x), "0 1 10 1 | 0 1 10 1");
        refused("a COUNT with W comes ahead of FAULT 6", x, 67, 1, first + "00000 000001 0", 1);
    }

    private static void walkFaults() {
        ObsMessages x = Make.template(216, 3, 3);
        Make.feedBits(x, 66, 1, "00000 00000");
        faulty("COUNT 0", x, 6, 0);
        Make.feedBits(x, 66, 1, "11111 00000");
        faulty("COUNT MISSING, PLAIN", x, 6, 0);
        Make.feedBits(x, 66, 2, "00001 00000 00000");
        faulty("COUNT 0 of the second", x, 6, 100);
        Make.feedBits(x, 67, 2, "00000 000000");
        faulty("COUNT 0, PACKED", x, 6, 0);
        taken("COUNT 30", x, 66, 1, "11110" + "0".repeat(150));
        x.element(0, 3, 0, 0, 6);
        Make.feedBits(x, 66, 1, "011111" + "0".repeat(6 * 31));
        faulty("COUNT 31", x, 6, 0);
        Make.refill(x, 0, 502);
        Make.feedBits(x, 66, 1, "00000000 0 0");
        faulty("fewer fields", x, 7, 1);
        Make.refill(x, 0, 501, 520);
        Make.feedBits(x, 66, 2, "00000000 1 00000000 00000000 0 00000000");
        faulty("none is pointed at", x, 7, 102);
        Make.feedBits(x, 67, 2, "00000000 000000 0 000000 00000000 000000");
        faulty("none is pointed at, PACKED", x, 7, 2);
        Make.refill(x, 226, 100, 1);
        Make.fill(x, 0, 226, 1);
        Make.feedBits(x, 66, 2, "0".repeat(101));
        faulty("the 101st field", x, 8, 100);
        Make.feedBits(x, 66, 1, "0".repeat(99));
        faulty("no bits for the 100th", x, 12, 99);
    }

    private static void templateFaults() {
        ObsMessages x = Make.template(0, 63);
        Make.feed(x, 1);
        faulty("1, ahead of 11", x, 1, 1);
        Make.refill(x, 3, 217);
        Make.feedBits(x, 66, 1, "00000");
        faulty("3, ahead of 12", x, 3, 1);
        Make.refill(x, 3);
        x.element(2, 3, 0, 100, 4);
        taken("the entries as they are", x, 66, 1, "0011");
        Checks.due("the entries as they are", values(x), "103");
        String message = Make.message(x);
        Checks.due("no message comes of it", message, "");
    }
}
