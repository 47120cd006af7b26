/** Promises 2 to 6 at their edges: TABLES and DESCRIPTORS, each bound from both sides, and what a refused call leaves. */
public final class TableEdgesTest {
    private static final String ILLEGAL = "IllegalArgumentException";
    private static final String STATE = "IllegalStateException";

    public static void main(String[] args) {
        elements();
        versionsOfEntries();
        scales();
        references();
        widths();
        refusedEntries();
        inForce();
        leastInForce();
        versionInUse();
        dropped();
        rooms();
        fullLists();
        noSuchLists();
        knownDescriptors();
        elementsAndSequences();
        repeats();
        widthOperators();
        scaleOperators();
        qualityOperators();
        shiftOperators();
        bits();
        Checks.end("TableEdgesTest");
    }

    private static Object entered(int version, int code, int scale, int reference, int width) {
        return Checks.run(() -> new Counted().element(version, code, scale, reference, width));
    }

    // ---- TABLES

    /** "An ELEMENT 0 .. 63". */
    private static void elements() {
        for (int version = -1; version <= 3; version++) {
            for (int code : new int[] {0, 1, 62, 63}) {
                Checks.due("element " + code, entered(version, code, 0, 0, 1), "nothing");
            }
            for (int code : new int[] {-1, -2, 64, 65, 100, Integer.MIN_VALUE, Integer.MAX_VALUE}) {
                Checks.due("element " + code, entered(version, code, 0, 0, 1), ILLEGAL);
            }
        }
    }

    /** "has ENTRIES in versions 0 .. 3 and one in the OVERLAY". */
    private static void versionsOfEntries() {
        for (int version : new int[] {-2, -3, 4, 5, Integer.MIN_VALUE, Integer.MAX_VALUE}) {
            Checks.due("version " + version, entered(version, 0, 0, 0, 1), ILLEGAL);
        }
        Counted x = Make.template();
        for (int version = -1; version <= 3; version++) {
            x.element(version, 40, 0, 0, 10 + version);
        }
        for (int version = -1; version <= 3; version++) {
            Checks.due("each is there", x.drop(version, 40), true);
            Checks.due("and goes alone", x.drop(version, 40), false);
        }
    }

    /** "a scale (-8 .. 8)". */
    private static void scales() {
        for (int scale = -8; scale <= 8; scale++) {
            Counted x = Make.template(40);
            x.element(0, 40, scale, 0, 1);
            Checks.due("scale " + scale, x.field(0, 0, 3), scale);
        }
        for (int scale : new int[] {-9, 9, -10, 10, Integer.MIN_VALUE, Integer.MAX_VALUE}) {
            Checks.due("scale " + scale, entered(0, 40, scale, 0, 1), ILLEGAL);
        }
    }

    /** "a reference (-1000000000 .. 1000000000)". */
    private static void references() {
        for (int reference : new int[] {-1000000000, -999999999, -1, 0, 1, 999999999, 1000000000}) {
            Counted x = Make.template(40);
            x.element(0, 40, 0, reference, 1);
            Checks.due("reference " + reference, x.reference(0, 0), reference);
        }
        for (int reference : new int[] {-1000000001, 1000000001, Integer.MIN_VALUE, Integer.MAX_VALUE}) {
            Checks.due("reference " + reference, entered(0, 40, 0, reference, 1), ILLEGAL);
        }
    }

    /** "and a width (1 .. 32)". */
    private static void widths() {
        for (int width = 1; width <= 32; width++) {
            Counted x = Make.template(40);
            x.element(0, 40, 0, 0, width);
            Checks.due("width " + width, x.field(0, 0, 2), width);
        }
        for (int width : new int[] {0, -1, 33, 34, Integer.MIN_VALUE, Integer.MAX_VALUE}) {
            Checks.due("width " + width, entered(0, 40, 0, 0, width), ILLEGAL);
        }
    }

    /** "IllegalArgumentException: a number is not as told": it makes no entry, and leaves the one that was there. */
    private static void refusedEntries() {
        int[][] wrong = {{9, 7, 5}, {-9, 7, 5}, {3, 1000000001, 5}, {3, -1000000001, 5}, {3, 7, 0}, {3, 7, 33}};
        for (int[] w : wrong) {
            Counted x = Make.template(40);
            Checks.fails("refused", () -> x.element(2, 40, w[0], w[1], w[2]), ILLEGAL);
            Checks.due("no entry comes of it", x.drop(2, 40), false);
            x.element(2, 40, 1, 2, 6);
            Checks.fails("refused", () -> x.element(2, 40, w[0], w[1], w[2]), ILLEGAL);
            Checks.due("the entry stays", x.field(0, 0, 3) + " " + x.reference(0, 0) + " " + x.field(0, 0, 2), "1 2 6");
            x.element(2, 40, -1, -2, 7);
            Checks.due("another one in its place", x.field(0, 0, 3) + " " + x.reference(0, 0) + " " + x.field(0, 0, 2),
                    "-1 -2 7");
        }
    }

    /** "The one in force": all versions that can have one, with each version in use. */
    private static void inForce() {
        for (int has = 0; has < 32; has++) {
            Counted x = Make.template(40);
            for (int version = -1; version <= 3; version++) {
                if ((has >> version + 1 & 1) == 1) {
                    x.element(version, 40, 0, 0, 10 + version);
                }
            }
            Checks.due("version 3 at first, entries " + has, x.field(0, 0, 2), widthInForce(has, 3));
            for (int inUse = 0; inUse <= 3; inUse++) {
                x.version(inUse);
                Checks.due("version " + inUse + ", entries " + has, x.field(0, 0, 2), widthInForce(has, inUse));
            }
        }
    }

    /** The least entry is an entry: width 1, and all else 0. */
    private static void leastInForce() {
        for (int version = -1; version <= 3; version++) {
            Counted x = Make.template(40);
            x.element(version, 40, 0, 0, 1);
            Checks.due("width 1 in version " + version, x.field(0, 0, 2), 1);
            Checks.due("it goes", x.drop(version, 40) + " " + x.field(0, 0, 2), "true -1");
        }
        Counted x = Make.template(40);
        x.element(3, 40, 5, 6, 7);
        x.element(-1, 40, 0, 0, 1);
        Checks.due("the overlay's", x.field(0, 0, 3) + " " + x.reference(0, 0) + " " + x.field(0, 0, 2), "0 0 1");
    }

    private static int widthInForce(int has, int inUse) {
        if ((has & 1) == 1) {
            return 9;
        }
        int width = -1;
        for (int version = 0; version <= inUse; version++) {
            width = (has >> version + 1 & 1) == 1 ? 10 + version : width;
        }
        return width;
    }

    /** "IllegalArgumentException: it is not 0 .. 3": the version in use stays. */
    private static void versionInUse() {
        for (int n : new int[] {-1, -2, 4, 5, Integer.MIN_VALUE, Integer.MAX_VALUE}) {
            for (int before = 0; before <= 3; before++) {
                Counted x = Make.template(40);
                for (int version = 0; version <= 3; version++) {
                    x.element(version, 40, 0, 0, 10 + version);
                }
                x.version(before);
                Checks.fails("version " + n, () -> x.version(n), ILLEGAL);
                Checks.due("version " + before + " stays", x.field(0, 0, 2), 10 + before);
            }
        }
    }

    /** "An entry goes: whether it was there": no such version or element was not. */
    private static void dropped() {
        Counted x = Make.template(0, 63);
        x.element(0, 63, 0, 0, 4);
        for (int version : new int[] {-2, 4, Integer.MIN_VALUE, Integer.MAX_VALUE}) {
            Checks.due("version " + version, x.drop(version, 0) || x.drop(version, 63), false);
        }
        for (int code : new int[] {-1, 64, Integer.MIN_VALUE, Integer.MAX_VALUE}) {
            for (int version = -1; version <= 3; version++) {
                Checks.due("element " + code, x.drop(version, code), false);
            }
        }
        Checks.due("both are there still", x.compile(), 2);
        Checks.due("the last", x.drop(0, 63), true);
        Checks.due("is gone", () -> x.compile(), ILLEGAL);
        x.element(0, 63, 0, 0, 4);
        Checks.due("and comes again", x.compile(), 2);
    }

    /** "A SEQUENCE 0 .. 15 has up to 8 descriptors, the TEMPLATE up to 24." */
    private static void rooms() {
        for (int list = -1; list <= 15; list++) {
            int room = list == -1 ? 24 : 8;
            Counted x = Make.withElements();
            for (int n = 1; n <= room; n++) {
                Checks.due("list " + list, x.append(list, 0), n);
            }
            int full = list;
            Checks.due("one more for list " + list, () -> x.append(full, 0), STATE);
            if (list >= 0) {
                x.append(-1, 100 + list);
            }
            Checks.due("all of list " + list, x.compile(), list == -1 ? 24 : 9);
            Checks.due("the last one", x.field(0, room - 1, 1), 0);
        }
    }

    /** "IllegalStateException: there is no room", behind no such descriptor; the list stays as it is. */
    private static void fullLists() {
        for (int list : new int[] {-1, 0, 15}) {
            Counted x = Make.withElements();
            int room = list == -1 ? 24 : 8;
            for (int n = 0; n < room; n++) {
                x.append(list, 3);
            }
            for (int d : new int[] {-1, 64, 215, 521}) {
                Checks.due("full, and no descriptor " + d, () -> x.append(list, d), ILLEGAL);
            }
            for (int d : new int[] {0, 63, 100, 216, 400, 520}) {
                Checks.due("full, " + d, () -> x.append(list, d), STATE);
            }
            if (list >= 0) {
                x.append(-1, 100 + list);
            }
            Checks.due("as many as before", x.fields(0), room);
            x.clear(list);
            for (int n = 1; n <= room; n++) {
                Checks.due("empty again", x.append(list, 3), n);
            }
        }
    }

    /** "no such list", "there is none such": other lists stay. */
    private static void noSuchLists() {
        for (int list : new int[] {-2, -3, 16, 17, 100, Integer.MIN_VALUE, Integer.MAX_VALUE}) {
            Counted x = Make.template(0, 100, 115);
            x.append(0, 3);
            x.append(15, 3);
            Checks.due("append to " + list, () -> x.append(list, 0), ILLEGAL);
            Checks.fails("clear " + list, () -> x.clear(list), ILLEGAL);
            Checks.due("all lists stay", x.compile(), 5);
        }
        for (int list = -1; list <= 15; list++) {
            Counted x = new Counted();
            for (int other = -1; other <= 15; other++) {
                x.append(other, 0);
            }
            x.clear(list);
            for (int other = -1; other <= 15; other++) {
                Checks.due("cleared " + list + ", list " + other, x.append(other, 0), other == list ? 1 : 2);
            }
        }
        Counted x = new Counted();
        Checks.runs("clear an empty one", () -> x.clear(3));
        Checks.due("a refused descriptor is not there", () -> x.append(3, 64), ILLEGAL);
        Checks.due("a refused descriptor was not there", x.append(3, 63), 1);
    }

    // ---- DESCRIPTORS

    /** The first and the last of each kind, and "No others are". */
    private static void knownDescriptors() {
        int[][] kinds = {{0, 63}, {100, 115}, {216, 343}, {400, 431}, {440, 455}, {460, 468}, {480, 487}, {501, 516},
                {520, 520}};
        for (int[] kind : kinds) {
            for (int list : new int[] {-1, 0, 15}) {
                Checks.due("first " + kind[0], () -> new Counted().append(list, kind[0]), 1);
                Checks.due("last " + kind[1], () -> new Counted().append(list, kind[1]), 1);
                Checks.due("before " + kind[0], () -> new Counted().append(list, kind[0] - 1), ILLEGAL);
                Checks.due("behind " + kind[1], () -> new Counted().append(list, kind[1] + 1), ILLEGAL);
            }
        }
        for (int d = -700; d < 1400; d++) {
            int descriptor = d;
            boolean known = false;
            for (int[] kind : kinds) {
                known |= d >= kind[0] && d <= kind[1];
            }
            Checks.due("descriptor " + d, () -> new Counted().append(-1, descriptor), known ? 1 : ILLEGAL);
        }
        for (int d : new int[] {Integer.MIN_VALUE, Integer.MIN_VALUE + 520, 65536, Integer.MAX_VALUE}) {
            Checks.due("descriptor " + d, () -> new Counted().append(-1, d), ILLEGAL);
        }
    }

    /** "0 .. 63 that element. 100 .. 115: sequence 0 .. 15". */
    private static void elementsAndSequences() {
        for (int code = 0; code <= 63; code++) {
            Counted x = new Counted();
            x.element(0, code, 0, 0, 4);
            x.append(-1, code);
            Checks.due("element " + code, x.fields(0) + " " + x.field(0, 0, 1), "1 " + code);
        }
        for (int sequence = 0; sequence <= 15; sequence++) {
            Counted x = Make.template(100 + sequence);
            for (int other = 0; other <= 15; other++) {
                Make.fill(x, other, other == sequence ? new int[] {3, 4} : new int[] {0});
            }
            Checks.due("sequence " + sequence, x.fields(0) + " " + x.field(0, 1, 1), "2 4");
        }
    }

    /** "200 + 16 * x + n, x 1 .. 8, n 0 .. 15: REPEAT the next x descriptors of the same list n times". */
    private static void repeats() {
        for (int x = 1; x <= 8; x++) {
            for (int n = 0; n <= 15; n++) {
                Counted o = Make.template(200 + 16 * x + n);
                if (n == 0) {
                    o.append(-1, 3);
                    o.put(0, 0, 2);
                }
                for (int i = 0; i < x; i++) {
                    o.append(-1, 0);
                }
                o.append(-1, 5);
                int given = n == 0 ? 1 + 2 * x : n * x;
                String what = "REPEAT " + x + ", " + n;
                if (given + 1 > 100) {
                    Checks.due(what, () -> o.fields(0), ILLEGAL);
                    Checks.due(what, Make.fault(o), "8 at 100");
                } else {
                    Checks.due(what, () -> o.fields(0), given + 1);
                    Checks.due(what + ", the last", o.field(0, given - 1, 1) + " " + o.field(0, given, 1), "0 5");
                    Checks.due(what + ", repetition", o.field(0, given - 1, 5), n == 0 ? 1 : n - 1);
                    Checks.due(what + ", behind", o.field(0, given, 5), -1);
                }
            }
        }
    }

    /** "400 + k, k 0 .. 31: WIDTH k - 16 .. with k = 0 is its END". */
    private static void widthOperators() {
        for (int k = 1; k <= 31; k++) {
            Counted x = Make.template(400 + k, 40, 400, 40);
            x.element(0, 40, 0, 0, k < 16 ? 17 : 16);
            Checks.due("WIDTH " + (k - 16), x.field(0, 0, 2), (k < 16 ? 17 : 16) + k - 16);
            Checks.due("behind its END", x.field(0, 1, 2), k < 16 ? 17 : 16);
        }
    }

    /** "440 + k, k 0 .. 15: SCALE k - 8". */
    private static void scaleOperators() {
        for (int k = 1; k <= 15; k++) {
            Counted x = Make.template(440 + k, 40, 440, 40);
            x.element(0, 40, 1, 0, 8);
            Checks.due("SCALE " + (k - 8), x.field(0, 0, 3), 1 + k - 8);
            Checks.due("behind its END", x.field(0, 1, 3), 1);
        }
    }

    /** "460 + k, k 0 .. 8: QUALITY k". */
    private static void qualityOperators() {
        for (int k = 1; k <= 8; k++) {
            Counted x = Make.template(460 + k, 3, 460, 3);
            Checks.due("QUALITY " + k, x.fields(0) + " " + x.field(0, 0, 0) + " " + x.field(0, 0, 2), "3 1 " + k);
            Checks.due("behind its END", x.field(0, 2, 0) + " " + x.field(0, 3, 0), "0 -1");
        }
    }

    /** "480 + k, k 0 .. 7: SHIFT k". */
    private static void shiftOperators() {
        long[] far = {-1000000000, -3, 0, 1, 1000000000};
        for (int k = 1; k <= 7; k++) {
            for (long reference : far) {
                Counted x = Make.template(480 + k, 40, 480, 40);
                x.element(0, 40, 0, (int) reference, 8);
                Checks.due("SHIFT " + k, x.reference(0, 0), reference * (1L << k));
                Checks.due("behind its END", x.reference(0, 1), reference);
            }
        }
    }

    /** "501 .. 516: BITS, 1 .. 16. 520: MARK." */
    private static void bits() {
        for (int n = 1; n <= 16; n++) {
            Counted x = Make.template(231, 3, 3, 500 + n);
            for (int i = 0; i < n; i++) {
                x.put(0, 16 + i, 1);
            }
            Checks.due("BITS " + n, () -> x.fields(0), 16 + n);
            Checks.due("the last", x.field(0, 16 + n - 1, 0) + " " + x.field(0, 16 + n, 0), "3 -1");
            x.append(-1, 520);
            Checks.due("MARK", () -> x.fields(0), 17 + n);
            Checks.due("MARK", x.field(0, 16 + n, 0) + " " + x.field(0, 16 + n, 4), "4 " + (16 - n));
        }
    }
}
