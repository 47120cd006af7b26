/** Promises 17 and 18: the tape, and what is read from it. Its FAULTs are in ReadEdgesTest. */
public final class ReadTest {
    private static final long MISSING = ObsMessages.MISSING;

    public static void main(String[] args) {
        tapeOrder();
        plain();
        packed();
        packedSpreads();
        othersBecomeMissing();
        entriesAsTheyAre();
        thereAndBack();
        Checks.end("ReadTest");
    }

    /** Reads a message of some bits. */
    private static void taken(String what, Counted x, int form, int n, String bits) {
        Make.feedBits(x, form, n, bits);
        Checks.due(what, () -> x.read(), n);
        Checks.due(what + ", fault", Make.fault(x), "0 at -1");
    }

    /** The same message, fed in pieces of each length. */
    private static void tapeOrder() {
        Counted x = Make.template(2);
        Checks.due("4 bytes", x.feed(66 << 24 | 1 << 16 | 32, 4), 4);
        Checks.due("3 bytes", x.feed(0x11223344, 3), 7);
        Checks.due("1 byte", x.feed(0x11223355, 1), 8);
        Checks.due("read", () -> x.read(), 1);
        Checks.due("the lowest bytes, the highest first", x.get(0, 0), 0x22334455L);
        x.feed(66, 1);
        x.feed(0x7fff0100, 2);
        x.feed(0x7fff7f20, 1);
        x.feed(-2, 4);
        Checks.due("read", () -> x.read(), 1);
        Checks.due("a word below 0", x.get(0, 0), 4294967294L);
    }

    private static void plain() {
        Counted x = Make.template(3, 4);
        taken("one subset", x, 66, 1, "00101 000000000001");
        Checks.due("its values", Make.row(x, 0, 3), "5 11 -");
        taken("two subsets", x, 66, 2, "00000 111111111110 11111 111111111111");
        Checks.due("their values", Make.row(x, 0, 3) + "|" + Make.row(x, 1, 3), "0 4104 -|- - -");
        taken("three subsets", x, 66, 3, "11111 000000000000 11110 111111111111 00001 000000000010");
        Checks.due("their values", Make.row(x, 0, 3) + "|" + Make.row(x, 1, 3) + "|" + Make.row(x, 2, 3),
                "- 10 -|30 - -|1 12 -");
        Counted y = Make.template(463, 216, 5, 3, 460, 502, 520);
        taken("all kinds, and another COUNT", y, 66, 2, "00000000000000000101 110 00001 111 11110 1 0 00111"
                + "00000000000000000110 001 00001 001 00010 001 00011 0 1 11111");
        Checks.due("their values", Make.row(y, 0, 9) + "|" + Make.row(y, 1, 11),
                "2 6 1 - 30 1 0 7 -|3 1 1 1 2 1 3 0 1 - -");
        Counted z = Make.template(1, 2, 482, 5, 480);
        taken("wide and narrow", z, 66, 1, "1 " + "1".repeat(31) + "0" + "0".repeat(20));
        Checks.due("their values", Make.row(z, 0, 4), "- 4294967294 -12 -");
        z.clear(-1);
        taken("no fields", z, 66, 8, "");
        Checks.due("no values", Make.row(z, 0, 4), "- - - -");
    }

    private static void packed() {
        Counted x = Make.template(3, 4);
        taken("W 0", x, 67, 2, "00100 000000 000000000011 000000");
        Checks.due("their values", Make.row(x, 0, 3) + "|" + Make.row(x, 1, 3), "4 13 -|4 13 -");
        taken("W 0, MISSING", x, 67, 2, "11111 000000 000000000011 000000");
        Checks.due("their values", Make.row(x, 0, 3) + "|" + Make.row(x, 1, 3), "- 13 -|- 13 -");
        taken("W 3 and 1", x, 67, 3, "00100 000011 000 110 111  000000000010 000001 1 0 1");
        Checks.due("their values", Make.row(x, 0, 3) + "|" + Make.row(x, 1, 3) + "|" + Make.row(x, 2, 3),
                "4 - -|10 12 -|- - -");
        Counted y = Make.template(463, 216, 5, 3, 460, 502, 520);
        taken("all kinds", y, 67, 2, "00000000000000000101 000000  101 000010 01 00  00001 000000  011 000001 1 0"
                + "  11110 000001 0 1  1 000000  0 000000  00111 000000");
        Checks.due("their values", Make.row(y, 0, 9) + "|" + Make.row(y, 1, 9), "2 6 1 - 30 1 0 7 -|2 5 1 3 - 1 0 7 -");
        y.clear(-1);
        taken("no fields", y, 67, 3, "");
    }

    /** A message may have a greater W than it would be written with. */
    private static void packedSpreads() {
        Counted x = Make.template(3);
        taken("W 32", x, 67, 2, "00000 100000 " + "0".repeat(30) + "10 " + "1".repeat(32));
        Checks.due("their values", Make.row(x, 0, 1) + "|" + Make.row(x, 1, 1), "2|-");
        taken("W 33", x, 67, 2, "00001 100001 " + "0".repeat(28) + "11101 " + "1".repeat(33));
        Checks.due("their values", Make.row(x, 0, 1) + "|" + Make.row(x, 1, 1), "30|-");
        taken("LEAST is none", x, 67, 3, "00001 000010 01 10 11");
        Checks.due("their values", Make.row(x, 0, 1) + "|" + Make.row(x, 1, 1) + "|" + Make.row(x, 2, 1), "2|3|-");
    }

    /** "Then the values are those of the subsets; others become MISSING": values behind the fields, and subsets. */
    private static void othersBecomeMissing() {
        for (int form = 66; form <= 67; form++) {
            Counted x = Make.template(3, 4);
            for (int s = 0; s < 8; s++) {
                for (int i = 0; i < 100; i += 11) {
                    x.put(s, i, 100 * s + i);
                }
            }
            taken("two subsets", x, form, 2, form == 66 ? "00101 000000000001 00101 000000000001"
                    : "00101 000000 000000000001 000000");
            for (int s = 0; s < 8; s++) {
                Checks.due("subset " + s + " of form " + form, Make.row(x, s, 3), s < 2 ? "5 11 -" : "- - -");
                for (int i = 11; i < 100; i += 11) {
                    Checks.due("value " + i + " of subset " + s, x.get(s, i), MISSING);
                }
            }
        }
    }

    private static void entriesAsTheyAre() {
        Counted x = Make.template(3);
        x.put(0, 0, 3);
        x.write(1, false);
        x.element(2, 3, 0, 100, 4);
        taken("the entries as they are", x, 66, 1, "0011");
        Checks.due("the entries as they are", x.get(0, 0), 103);
        Checks.due("the message stays", Make.message(x), "66 1 0 5 24");
    }

    /** What was written is read again, in both forms, with every kind of field. */
    private static void thereAndBack() {
        for (int turn = 0; turn < 2; turn++) {
            Counted x = Make.template(463, 216, 3, 5, 460, 482, 4, 480, 503, 520, 2);
            Make.values(x, 0, 2, 6, -3, MISSING, 5, 40, 1, 1, 0, 7, 4294967294L);
            Make.values(x, 1, 2, 0, 1048571, 1, MISSING, 4134, 1, 1, 0, MISSING, 0);
            int bytes = x.write(2, turn == 1);
            int[] message = new int[bytes];
            for (int i = 0; i < bytes; i++) {
                message[i] = x.byteAt(i);
            }
            Counted y = Make.template(463, 216, 3, 5, 460, 482, 4, 480, 503, 520, 2);
            Make.feed(y, message);
            Checks.due("read again", () -> y.read(), 2);
            for (int s = 0; s < 2; s++) {
                Checks.due("subset " + s + " again", Make.row(y, s, 12), Make.row(x, s, 12));
            }
        }
    }
}
