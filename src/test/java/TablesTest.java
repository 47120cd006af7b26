/** Promises 2 to 6: entries, versions and lists. */
public final class TablesTest {
    private static final String ILLEGAL = "IllegalArgumentException";
    private static final String STATE = "IllegalStateException";

    public static void main(String[] args) {
        entryBounds();
        entryInForce();
        drops();
        versions();
        lists();
        descriptors();
        Checks.end("TablesTest");
    }

    private static void entryBounds() {
        Counted x = new Counted();
        for (int version = -1; version <= 3; version++) {
            int v = version;
            Checks.runs("least entry", () -> x.element(v, 0, -8, -1000000000, 1));
            Checks.runs("greatest entry", () -> x.element(v, 63, 8, 1000000000, 32));
        }
        int[][] wrong = {{-2, 0, 0, 0, 1}, {4, 0, 0, 0, 1}, {0, -1, 0, 0, 1}, {0, 64, 0, 0, 1}, {0, 0, -9, 0, 1},
                {0, 0, 9, 0, 1}, {0, 0, 0, -1000000001, 1}, {0, 0, 0, 1000000001, 1}, {0, 0, 0, 0, 0},
                {0, 0, 0, 0, 33}, {0, 0, 0, Integer.MIN_VALUE, 1}, {Integer.MIN_VALUE, 0, 0, 0, 1},
                {Integer.MAX_VALUE, Integer.MAX_VALUE, 0, 0, 1}};
        for (int[] w : wrong) {
            Checks.fails("element" + java.util.Arrays.toString(w), () -> x.element(w[0], w[1], w[2], w[3], w[4]),
                    ILLEGAL);
        }
        x.append(-1, 0);
        Checks.due("width stays", x.field(0, 0, 2), 1);
        Checks.due("scale stays", x.field(0, 0, 3), -8);
        Checks.due("reference stays", x.reference(0, 0), -1000000000);
    }

    private static void entryInForce() {
        Counted x = new Counted();
        x.append(-1, 7);
        Checks.due("no entry", x.field(0, 0, 2), -1);
        x.element(1, 7, 0, 0, 11);
        x.element(3, 7, 0, 0, 13);
        Checks.due("version 3 at first", x.field(0, 0, 2), 13);
        x.version(2);
        Checks.due("version 1 for 2", x.field(0, 0, 2), 11);
        x.version(1);
        Checks.due("version 1 for 1", x.field(0, 0, 2), 11);
        x.version(0);
        Checks.due("none for 0", x.field(0, 0, 2), -1);
        x.element(-1, 7, 0, 0, 20);
        Checks.due("overlay for 0", x.field(0, 0, 2), 20);
        x.version(3);
        Checks.due("overlay for 3", x.field(0, 0, 2), 20);
        x.element(-1, 7, 0, 0, 21);
        Checks.due("overlay anew", x.field(0, 0, 2), 21);
        x.drop(-1, 7);
        Checks.due("overlay gone", x.field(0, 0, 2), 13);
        x.drop(3, 7);
        Checks.due("version 3 gone", x.field(0, 0, 2), 11);
    }

    private static void drops() {
        Counted x = new Counted();
        Checks.due("nothing to drop", x.drop(0, 5), false);
        x.element(0, 5, 0, 0, 1);
        x.element(-1, 5, 0, 0, 1);
        Checks.due("another version", x.drop(1, 5), false);
        Checks.due("another element", x.drop(0, 6), false);
        Checks.due("drop", x.drop(0, 5), true);
        Checks.due("dropped already", x.drop(0, 5), false);
        Checks.due("drop the overlay's", x.drop(-1, 5), true);
        Checks.due("dropped already from the overlay", x.drop(-1, 5), false);
        int[][] none = {{-2, 5}, {4, 5}, {0, -1}, {0, 64}, {-1, -1}, {-1, 64}, {Integer.MIN_VALUE, 0},
                {0, Integer.MAX_VALUE}};
        for (int[] n : none) {
            Checks.due("drop" + java.util.Arrays.toString(n), () -> x.drop(n[0], n[1]), false);
        }
    }

    private static void versions() {
        Counted x = new Counted();
        for (int n = 0; n <= 3; n++) {
            int v = n;
            Checks.runs("version " + n, () -> x.version(v));
        }
        for (int n : new int[] {-1, 4, Integer.MIN_VALUE, Integer.MAX_VALUE}) {
            Checks.fails("version " + n, () -> x.version(n), ILLEGAL);
        }
        x.element(3, 1, 0, 0, 4);
        x.append(-1, 1);
        Checks.due("a wrong version changes nothing", x.compile(), 1);
    }

    private static void lists() {
        for (int list = -1; list < 16; list++) {
            Counted x = new Counted();
            int l = list;
            int room = list == -1 ? 24 : 8;
            for (int n = 1; n <= room; n++) {
                Checks.due("append " + list, x.append(list, 520), n);
            }
            Checks.due("full " + list, () -> x.append(l, 520), STATE);
            Checks.due("full, but no such descriptor", () -> x.append(l, 521), ILLEGAL);
            Checks.runs("clear", () -> x.clear(l));
            Checks.due("empty again", x.append(list, 1), 1);
        }
        Counted x = new Counted();
        for (int list : new int[] {-2, 16, Integer.MIN_VALUE, Integer.MAX_VALUE}) {
            Checks.due("append to " + list, () -> x.append(list, 1), ILLEGAL);
            Checks.fails("clear " + list, () -> x.clear(list), ILLEGAL);
        }
        x.element(0, 1, 0, 0, 3);
        x.element(0, 2, 0, 0, 5);
        x.append(15, 1);
        x.append(14, 2);
        x.append(-1, 115);
        x.append(-1, 114);
        x.clear(14);
        x.append(14, 1);
        x.append(14, 2);
        Checks.due("lists stand apart", x.compile(), 5);
        Checks.due("first", x.field(0, 0, 1), 1);
        Checks.due("third", x.field(0, 2, 1), 2);
        x.clear(-1);
        Checks.due("an empty template", x.compile(), 0);
    }

    private static void descriptors() {
        for (int d = -5; d < 700; d++) {
            int descriptor = d;
            boolean known = d >= 0 && d <= 63 || d >= 100 && d <= 115 || d >= 216 && d <= 343 || d >= 400 && d <= 431
                    || d >= 440 && d <= 455 || d >= 460 && d <= 468 || d >= 480 && d <= 487 || d >= 501 && d <= 516
                    || d == 520;
            Object want = known ? 1 : ILLEGAL;
            Checks.due("template, " + d, () -> new Counted().append(-1, descriptor), want);
            Checks.due("sequence, " + d, () -> new Counted().append(3, descriptor), want);
        }
        Checks.due("far off", () -> new Counted().append(0, Integer.MIN_VALUE), ILLEGAL);
        Checks.due("far off", () -> new Counted().append(0, Integer.MAX_VALUE), ILLEGAL);
    }
}
