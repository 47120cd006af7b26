/** Promises 9 to 14 at their edges: values, COUNT and BIT, BITS and MARK, the 101st field and the 2001st descriptor. */
public final class WalkEdgesTest {
    private static final String ILLEGAL = "IllegalArgumentException";
    private static final String BOUNDS = "IndexOutOfBoundsException";
    private static final long MISSING = ObsMessages.MISSING;
    private static final int[] FAR = {Integer.MIN_VALUE, Integer.MAX_VALUE};

    public static void main(String[] args) {
        valueBounds();
        valuesOfAnyNumber();
        countValues();
        countsWithoutOperators();
        bitValues();
        bitsAndTheirElements();
        bitsStandForTheLatest();
        pointedAt();
        othersNoMore();
        marks();
        fieldsOfEachKind();
        hundredAndFirst();
        fault7AheadOf8();
        twoThousandAndFirst();
        twoThousandAndFirstOfEachKind();
        noSuchSubset();
        noSuchField();
        fieldsAtFault6();
        repetitions();
        findEdges();
        nothingOfAnEarlierWalk();
        Checks.end("WalkEdgesTest");
    }

    private static void walks(String what, Counted x, int subset, int fields) {
        Checks.due(what, () -> x.fields(subset), fields);
        Checks.due(what + ", fault", Make.fault(x), "0 at -1");
    }

    private static void faulty(String what, Counted x, int subset, int number, int place) {
        Checks.due(what, () -> x.fields(subset), ILLEGAL);
        Checks.due(what + ", fault", Make.fault(x), number + " at " + place);
    }

    private static String field(Counted x, int subset, int i) {
        StringBuilder s = new StringBuilder();
        for (int what = 0; what <= 5; what++) {
            s.append(x.field(subset, i, what)).append(' ');
        }
        return s.append(x.reference(subset, i)).toString();
    }

    // ---- values

    /** "A value of a subset (0 .. 7)", values 0 .. 99; a refused put leaves them all. */
    private static void valueBounds() {
        for (int subset : new int[] {0, 7}) {
            for (int i : new int[] {0, 99}) {
                Counted x = new Counted();
                Checks.due("at first", x.get(subset, i), MISSING);
                x.put(subset, i, 5);
                Checks.due("put", x.get(subset, i), 5);
                for (int wrong : new int[] {-1, 8, 9, FAR[0], FAR[1]}) {
                    Checks.fails("subset " + wrong, () -> x.put(wrong, i, 6), BOUNDS);
                    Checks.due("subset " + wrong, () -> x.get(wrong, i), BOUNDS);
                }
                for (int wrong : new int[] {-1, 100, 101, FAR[0], FAR[1]}) {
                    Checks.fails("value " + wrong, () -> x.put(subset, wrong, 6), BOUNDS);
                    Checks.due("value " + wrong, () -> x.get(subset, wrong), BOUNDS);
                }
                Checks.due("it stays", x.get(subset, i), 5);
                Checks.due("its neighbours stay", x.get(7 - subset, i) + x.get(subset, 99 - i), 2 * MISSING);
            }
        }
    }

    /** "each a whole number or MISSING": any number is kept as it is. */
    private static void valuesOfAnyNumber() {
        Counted x = new Counted();
        for (long v : new long[] {0, 1, -1, 1L << 32, Long.MAX_VALUE, Long.MIN_VALUE, MISSING - 1, MISSING + 1, MISSING}) {
            Checks.runs("put " + v, () -> x.put(3, 50, v));
            Checks.due("get " + v, x.get(3, 50), v);
        }
    }

    // ---- COUNT

    /** "whose value must be 1 .. 30, FAULT 6 at it else". */
    private static void countValues() {
        long[] wrong = {0, -1, 31, 32, MISSING, 1L << 32 | 1, 1L << 32, Long.MIN_VALUE, Long.MAX_VALUE};
        for (int subset : new int[] {0, 3, 7}) {
            for (long v : wrong) {
                Counted x = Make.template(3, 216, 3, 0, 0);
                x.put(subset, 1, v);
                faulty("COUNT " + v, x, subset, 6, 100 * subset + 1);
                Checks.due("the COUNT is there", field(x, subset, 1), "2 3 5 0 -1 -1 0");
                Checks.due("none behind it", field(x, subset, 2), "-1 -1 -1 -1 -1 -1 0");
            }
            for (int v = 1; v <= 30; v++) {
                Counted x = Make.template(3, 216, 3, 0, 5);
                x.put(subset, 1, v);
                walks("COUNT " + v, x, subset, 3 + v);
                Checks.due("the last repetition", x.field(subset, 1 + v, 5) + " " + x.field(subset, 2 + v, 5),
                        (v - 1) + " -1");
            }
        }
    }

    /** "as ELEMENT but without what operators add or QUALITY". */
    private static void countsWithoutOperators() {
        Counted x = Make.template(401, 455, 487, 468, 216, 4, 520, 460, 480, 440, 400);
        x.put(0, 0, 1);
        faulty("a COUNT under all operators, then a MARK", x, 0, 7, 1);
        Checks.due("the COUNT", field(x, 0, 0), "2 4 12 2 -1 -1 10");
        Counted y = Make.template(217, 100);
        Make.fill(y, 0, 461, 232, 3, 217, 3, 460);
        y.put(0, 0, 2);
        walks("a REPEAT that is counted", y, 0, 5);
        Checks.due("the COUNT lies in another REPEAT", y.field(0, 0, 5), 0);
        Checks.due("innermost repetitions", y.field(0, 2, 5) + " " + y.field(0, 4, 5), "0 0");
    }

    // ---- BITS and MARK

    /** "values 0 or 1 (else FAULT 6 at it)". */
    private static void bitValues() {
        for (long v : new long[] {-1, 2, 3, MISSING, 1L << 32, 1L << 32 | 1, Long.MIN_VALUE, Long.MAX_VALUE}) {
            for (int bit = 0; bit < 3; bit++) {
                Counted x = Make.template(3, 3, 3, 503, 3);
                Make.values(x, 6, 0, 0, 0, 1, 0, 1);
                x.put(6, 3 + bit, v);
                faulty("BIT " + v, x, 6, 6, 603 + bit);
                Checks.due("the BIT is there", field(x, 6, 3 + bit), "3 -1 1 0 " + bit + " -1 0");
                Checks.due("none behind it", x.field(6, 4 + bit, 0), -1);
            }
        }
        for (int values = 0; values < 8; values++) {
            Counted x = Make.template(3, 3, 3, 503, 3);
            Make.values(x, 6, 0, 0, 0, values & 1, values >> 1 & 1, values >> 2);
            walks("BITs " + values, x, 6, 7);
        }
    }

    /** "FAULT 7 if there are fewer": for each n one too few, and just as many. */
    private static void bitsAndTheirElements() {
        for (int n = 1; n <= 16; n++) {
            Counted x = Make.withElements();
            for (int i = 1; i < n; i++) {
                x.append(-1, 3);
            }
            x.append(-1, 500 + n);
            faulty(n + " BITs for one too few", x, 2, 7, 200 + n - 1);
            Checks.due("no BIT", x.field(2, n - 1, 0), -1);
            Counted y = Make.withElements();
            for (int i = 0; i < n; i++) {
                y.append(-1, 3);
                y.put(2, n + i, 0);
            }
            y.append(-1, 500 + n);
            walks(n + " BITs for as many", y, 2, 2 * n);
            Checks.due("the first and the last stand for", y.field(2, n, 4) + " " + y.field(2, 2 * n - 1, 4), "0 " + (n - 1));
        }
        Counted x = Make.template(216, 3, 3, 461, 3, 460, 503);
        x.put(0, 0, 1);
        faulty("COUNT and QUALITY are no ELEMENT", x, 0, 7, 4);
        Counted y = Make.template(3, 3, 502, 520, 503);
        Make.values(y, 0, 0, 0, 1, 1);
        faulty("BIT and MARK are no ELEMENT", y, 0, 7, 5);
    }

    /** "they stand for the latest n fields ELEMENT, in order". */
    private static void bitsStandForTheLatest() {
        Counted x = Make.template(3, 3, 461, 3, 460, 216, 3, 3, 504, 3, 502);
        Make.values(x, 0, 0, 0, 0, 0, 1, 0, 1, 0, 1, 1, 0, 0, 0);
        walks("with others between", x, 0, 13);
        Checks.due("four", x.field(0, 6, 4) + " " + x.field(0, 7, 4) + " " + x.field(0, 8, 4) + " " + x.field(0, 9, 4),
                "0 1 3 5");
        Checks.due("two, later", x.field(0, 11, 4) + " " + x.field(0, 12, 4), "5 10");
    }

    /** "those with 1 are pointed at from then on, from the first on": all ways to set three BITs. */
    private static void pointedAt() {
        for (int values = 0; values < 8; values++) {
            Counted x = Make.template(3, 4, 5, 503, 252, 520, 416, 400);
            Make.values(x, 0, 0, 0, 0, values & 1, values >> 1 & 1, values >> 2);
            int ones = Integer.bitCount(values);
            faulty("as many MARKs as ones, of " + values, x, 0, 7, 6 + ones);
            int mark = 6;
            for (int i = 0; i < 3; i++) {
                if ((values >> i & 1) == 1) {
                    Checks.due("MARK of " + i, field(x, 0, mark), "4 " + (3 + i) + " " + x.field(0, i, 2) + " "
                            + x.field(0, i, 3) + " " + i + " " + (mark - 6) + " " + x.reference(0, i));
                    mark++;
                }
            }
            Checks.due("no MARK more", x.field(0, mark, 0), -1);
        }
    }

    /** "(others no more)": each BITS begins anew, also when all its values are 0. */
    private static void othersNoMore() {
        Counted x = Make.template(3, 3, 502, 502, 520);
        Make.values(x, 0, 0, 0, 1, 1, 0, 0);
        faulty("none of the later BITS", x, 0, 7, 6);
        x.put(0, 4, 1);
        walks("one of the later BITS", x, 0, 7);
        Counted y = Make.template(3, 3, 502, 520, 501, 520, 520);
        Make.values(y, 0, 0, 0, 1, 1, 0, 1);
        faulty("what was left is left no more", y, 0, 7, 7);
        Checks.due("the later one", y.field(0, 6, 4), 1);
        Counted z = Make.template(3, 501, 520, 501, 520);
        Make.values(z, 0, 0, 1, 0, 1);
        walks("the same again", z, 0, 5);
        Checks.due("the same again", z.field(0, 2, 4) + " " + z.field(0, 4, 4), "0 0");
    }

    /** "MARK: .. FAULT 7 if there is none left (both at the field that would come)". */
    private static void marks() {
        faulty("no BITS", Make.template(520), 4, 7, 400);
        faulty("no BITS, behind a field", Make.template(3, 520), 4, 7, 401);
        Counted x = Make.template(3, 501, 3, 3, 520);
        Make.values(x, 0, 0, 1);
        walks("fields between", x, 0, 5);
        x.append(-1, 520);
        faulty("one MARK too many", x, 0, 7, 5);
        Counted y = Make.template(420, 450, 482, 4, 480, 440, 400, 501, 468, 401, 447, 487, 520, 480, 440, 400, 460);
        y.put(0, 1, 1);
        walks("operators add nothing to a MARK", y, 0, 3);
        Checks.due("as its field was", field(y, 0, 2), "4 4 16 4 0 -1 40");
    }

    // ---- fields

    /** "0 ELEMENT, 1 QUALITY, 2 COUNT, 3 BIT, 4 MARK", and what each has. */
    private static void fieldsOfEachKind() {
        Counted x = Make.template(468, 4, 460, 216, 3, 5, 501, 520);
        Make.values(x, 7, 0, 0, 1, 0, 1, 0);
        walks("one of each", x, 7, 6);
        String[] due = {"1 -1 8 0 1 -1 0", "0 4 12 2 -1 -1 10", "2 3 5 0 -1 -1 0", "0 5 20 0 -1 0 -3", "3 -1 1 0 3 -1 0",
            "4 5 20 0 3 -1 -3"};
        for (int i = 0; i < due.length; i++) {
            Checks.due("field " + i, field(x, 7, i), due[i]);
            for (int what : new int[] {-1, 6, 7, FAR[0], FAR[1]}) {
                Checks.due("field " + i + ", what " + what, x.field(7, i, what), -1);
            }
        }
    }

    /** A template that begins with some fields (up to 100), then has others. */
    private static Counted after(int fields, int... more) {
        Counted x = Make.withElements();
        Make.fill(x, 0, 226, 3);
        if (fields >= 10) {
            Make.fill(x, -1, 216 + fields / 10, 100);
        }
        if (fields % 10 > 0) {
            Make.fill(x, -1, 216 + fields % 10, 3);
        }
        Make.fill(x, -1, more);
        return x;
    }

    /** "The 101st field: FAULT 8": one of each kind as the 100th, and as the 101st. */
    private static void hundredAndFirst() {
        walks("ELEMENT, the 100th", after(99, 3), 0, 100);
        faulty("ELEMENT, the 101st", after(100, 3), 0, 8, 100);
        faulty("ELEMENT, the 101st of another", after(100, 3), 7, 8, 800);
        walks("QUALITY, the 99th", after(98, 461, 3, 460), 0, 100);
        faulty("QUALITY, the 100th", after(99, 461, 3, 460), 0, 8, 100);
        Checks.due("that is there", field(after(99, 461, 3, 460), 0, 99), "1 -1 1 0 100 -1 0");
        faulty("QUALITY, the 101st", after(100, 461, 3, 460), 0, 8, 100);
        Counted x = after(98, 216, 3, 3);
        x.put(0, 98, 1);
        walks("COUNT, the 99th", x, 0, 100);
        x.put(0, 98, 2);
        faulty("COUNT, the 99th, 2 times", x, 0, 8, 100);
        Counted y = after(99, 232, 3, 416, 400);
        y.put(0, 99, 1);
        walks("COUNT, the 100th", y, 0, 100);
        faulty("COUNT, the 101st", after(100, 216, 3, 3), 0, 8, 100);
        Counted z = after(98, 502);
        z.put(0, 98, 0);
        z.put(0, 99, 0);
        walks("BITs, the last the 100th", z, 0, 100);
        Counted u = after(99, 502);
        u.put(0, 99, 1);
        faulty("BITs, the second the 101st", u, 0, 8, 100);
        u.put(0, 99, 2);
        faulty("FAULT 6 of the 100th", u, 0, 6, 99);
        faulty("BITs, the first the 101st", after(100, 501), 0, 8, 100);
        Counted v = after(98, 501, 520);
        v.put(0, 98, 1);
        walks("MARK, the 100th", v, 0, 100);
        Counted w = after(99, 501, 520);
        w.put(0, 99, 1);
        faulty("MARK, the 101st", w, 0, 8, 100);
        walks("operators behind the 100th", after(100, 416, 400), 0, 100);
    }

    /** A BITS with too few fields, or a MARK with none left, gives no 101st field. */
    private static void fault7AheadOf8() {
        faulty("a MARK behind 100 fields", after(100, 520), 0, 7, 100);
        Counted x = Make.template(226, 100, 501);
        Make.fill(x, 0, 226, 101);
        Make.fill(x, 1, 232, 3, 416, 400);
        for (int i = 0; i < 100; i++) {
            x.put(0, i, 1);
        }
        faulty("BITS behind 100 COUNTs", x, 0, 7, 100);
    }

    /** 2000 - left descriptors (left is 2 or 4) that give no field, then others. */
    private static Counted nearlyTwoThousand(int left, int... more) {
        Counted x = Make.withElements();
        // 1 + 15 * (1 + 1 + 15 * (1 + 1 + 3 * 2)) = 1831, then 1 + 15 * (1 + 1 + 4 * 2) = 151, then 18 - left
        Make.fill(x, -1, 231, 100, 231, 102, 104);
        Make.fill(x, 0, 231, 101);
        Make.fill(x, 1, 235, 416, 400);
        Make.fill(x, 2, 236, 416, 400);
        Make.fill(x, 4, 232 + (16 - left) / 2, 416, 400);
        Make.fill(x, -1, more);
        return x;
    }

    /** "or the 2001st descriptor that it comes to (at the field that would come; a COUNT's is one, too)". */
    private static void twoThousandAndFirst() {
        walks("1999", nearlyTwoThousand(2, 3), 0, 1);
        walks("2000", nearlyTwoThousand(2, 3, 3), 0, 2);
        faulty("2001", nearlyTwoThousand(2, 3, 3, 3), 0, 8, 2);
        faulty("2001 of another", nearlyTwoThousand(2, 3, 3, 3), 5, 8, 502);
        Counted x = nearlyTwoThousand(2, 3, 3, 3);
        Checks.due("what came before is there", x.field(0, 1, 0) + " " + x.field(0, 2, 0), "0 -1");
        Counted y = nearlyTwoThousand(4, 216, 3, 3);
        y.put(0, 0, 1);
        walks("1999 with a COUNT", y, 0, 2);
        y.put(0, 0, 2);
        walks("2000 with a COUNT", y, 0, 3);
        y.put(0, 0, 3);
        faulty("2001 by a COUNT", y, 0, 8, 3);
        walks("2000, a REPEAT of 3", nearlyTwoThousand(4, 219, 3), 0, 3);
        faulty("2001, a REPEAT of 4", nearlyTwoThousand(4, 220, 3), 0, 8, 3);
        Counted z = nearlyTwoThousand(4, 103);
        Make.fill(z, 3, 3, 3, 3);
        walks("2000, a sequence", z, 0, 3);
        z.append(3, 3);
        faulty("2001, a sequence", z, 0, 8, 3);
        Counted u = Make.template(231, 100);
        Make.fill(u, 0, 231, 101);
        Make.fill(u, 1, 231, 102);
        Make.fill(u, 2, 247, 416, 400);
        faulty("far more, and no field", u, 0, 8, 0);
    }

    /** Whatever the 2001st is, it is not come to: ahead of its own FAULT. */
    private static void twoThousandAndFirstOfEachKind() {
        int[][] last = {{3}, {103}, {217, 3}, {216, 3, 3}, {416, 400}, {501}, {520}, {516}};
        for (int[] l : last) {
            int[] more = new int[2 + l.length];
            more[0] = 3;
            more[1] = 3;
            System.arraycopy(l, 0, more, 2, l.length);
            Counted x = nearlyTwoThousand(2, more);
            Make.fill(x, 3, 3);
            faulty("the 2001st is " + l[0], x, 0, 8, 2);
        }
        Counted x = nearlyTwoThousand(2, 3, 216, 3, 3);
        faulty("the 2001st is a COUNT", x, 0, 8, 1);
        Checks.due("it is not there", x.field(0, 1, 0), -1);
        Counted y = nearlyTwoThousand(2, 461, 3, 460);
        faulty("the 2001st is an END", y, 0, 8, 2);
        Counted z = nearlyTwoThousand(2, 3, 501);
        z.put(0, 1, 0);
        walks("the 2000th is BITS", z, 0, 2);
        z.append(-1, 400 + 16);
        z.append(-1, 400);
        faulty("an operator behind it", z, 0, 8, 2);
    }

    // ---- no such

    /** "IndexOutOfBoundsException: no such subset"; field, reference and find have no exception. */
    private static void noSuchSubset() {
        for (int subset : new int[] {-1, -2, 8, 9, FAR[0], FAR[1]}) {
            Counted x = Make.template(4);
            Checks.due("fields of " + subset, () -> x.fields(subset), BOUNDS);
            Checks.due("field of " + subset, () -> x.field(subset, 0, 0), -1);
            Checks.due("reference of " + subset, () -> x.reference(subset, 0), 0);
            Checks.due("find in " + subset, () -> x.find(subset, 4, -1, 0), -1);
            Counted y = Make.template(63);
            Checks.due("fields of " + subset + ", ahead of FAULT 1", () -> y.fields(subset), BOUNDS);
        }
        for (int subset = 0; subset <= 7; subset++) {
            Counted x = Make.template(4);
            walks("subset " + subset, x, subset, 1);
            Checks.due("field, reference, find", x.field(subset, 0, 1) + " " + x.reference(subset, 0) + " "
                    + x.find(subset, 4, -1, 0), "4 10 0");
        }
    }

    /** "NONE if there is none such (a template with a FAULT has none)"; "0 if there is none such". */
    private static void noSuchField() {
        Counted x = Make.template(4, 5);
        for (int i : new int[] {-1, 2, 3, 99, 100, FAR[0], FAR[1]}) {
            for (int what = 0; what <= 5; what++) {
                Checks.due("field " + i, x.field(0, i, what), -1);
            }
            Checks.due("reference " + i, x.reference(0, i), 0);
        }
        Checks.due("the first and the last", x.reference(0, 0) + " " + x.reference(0, 1), "10 -3");
        x.append(-1, 400);
        Checks.due("a template with a FAULT", field(x, 0, 0), "-1 -1 -1 -1 -1 -1 0");
        Checks.due("an empty template", field(new Counted(), 0, 0), "-1 -1 -1 -1 -1 -1 0");
        Counted y = after(100, 3);
        Checks.due("field 99", field(y, 0, 99), "0 3 5 0 -1 9 0");
        Checks.due("field 100", field(y, 0, 100), "-1 -1 -1 -1 -1 -1 0");
    }

    /** "as far as it comes (a field at which FAULT 6 is, is there)"; those of FAULTs 7 and 8 are not. */
    private static void fieldsAtFault6() {
        Counted x = Make.template(4, 216, 5, 4);
        Checks.due("before it", field(x, 0, 0), "0 4 12 2 -1 -1 10");
        Checks.due("a COUNT that is MISSING", field(x, 0, 1), "2 5 20 0 -1 -1 -3");
        Checks.due("behind it", field(x, 0, 2), "-1 -1 -1 -1 -1 -1 0");
        Checks.due("find, as far as it comes", x.find(0, 4, -1, 0) + " " + x.find(0, 4, -1, 1), "0 -1");
        Counted y = Make.template(4, 501);
        Checks.due("a BIT that is MISSING", field(y, 0, 1), "3 -1 1 0 0 -1 0");
        Counted z = Make.template(4, 502);
        Checks.due("FAULT 7", field(z, 0, 0) + "|" + field(z, 0, 1), "0 4 12 2 -1 -1 10|-1 -1 -1 -1 -1 -1 0");
        Counted u = Make.template(4, 520);
        Checks.due("FAULT 7 of a MARK", field(u, 0, 1), "-1 -1 -1 -1 -1 -1 0");
    }

    /** "which repetition, from 0 on, of the innermost REPEAT that it lies in (NONE without; a COUNT is not in its own)". */
    private static void repetitions() {
        Counted x = Make.template(3, 266, 100, 216, 3, 3, 3);
        Make.fill(x, 0, 461, 3, 460, 218, 3);
        // 3 | (Q 3, 3 3, COUNT, 3) twice | 3
        Make.values(x, 0, 0, 0, 0, 0, 0, 1, 0, 0, 0, 0, 0, 2);
        walks("REPEATs within REPEATs", x, 0, 15);
        int[] due = {-1, 0, 0, 0, 1, 0, 0, 1, 1, 0, 1, 1, 0, 1, -1};
        for (int i = 0; i < due.length; i++) {
            Checks.due("repetition of field " + i, x.field(0, i, 5), due[i]);
        }
    }

    /** "The nth field ELEMENT (0 on) of an element in a subset, among those of repetition place (NONE: of all)". */
    private static void findEdges() {
        Counted x = Make.template(3, 219, 3, 217, 3, 462, 4, 460, 501, 520, 216, 4, 3);
        Make.values(x, 0, 0, 0, 0, 0, 0, 0, 0, 1, 0, 1, 0);
        // 3 | 3 3 3 | 3 | Q 4 | BIT MARK COUNT | 3
        walks("fields", x, 0, 11);
        String all = "";
        for (int nth = -1; nth <= 6; nth++) {
            all += x.find(0, 3, -1, nth) + " ";
        }
        Checks.due("of all", all, "-1 0 1 2 3 4 10 -1 ");
        Checks.due("repetition 0", x.find(0, 3, 0, 0) + " " + x.find(0, 3, 0, 1) + " " + x.find(0, 3, 0, 2) + " "
                + x.find(0, 3, 0, 3), "1 4 10 -1");
        Checks.due("repetition 2", x.find(0, 3, 2, 0) + " " + x.find(0, 3, 2, 1), "3 -1");
        Checks.due("repetition 3", x.find(0, 3, 3, 0), -1);
        Checks.due("COUNT and MARK are no ELEMENT", x.find(0, 4, -1, 0) + " " + x.find(0, 4, -1, 1), "6 -1");
        Checks.due("outside any REPEAT is in none", x.find(0, 4, 0, 0), -1);
        Checks.due("QUALITY and BIT have no element", x.find(0, -1, -1, 0), -1);
        for (int far : FAR) {
            Checks.due("far off", x.find(0, far, -1, 0) + " " + x.find(0, 3, far, 0) + " " + x.find(0, 3, -1, far) + " "
                    + x.find(far, 3, -1, 0), "-1 -1 -1 -1");
        }
        Checks.due("place -2 is none", x.find(0, 3, -2, 0), -1);
        Checks.due("no such element", x.find(0, 64, -1, 0) + " " + x.find(0, 63, -1, 0), "-1 -1");
        Checks.due("a template without it", Make.template(4).find(0, 3, -1, 0), -1);
        Checks.due("the 100th field", after(99, 4).find(0, 4, -1, 0), 99);
        Checks.due("no 101st field", after(100).find(0, 3, -1, 100) + " " + after(100).find(0, 4, -1, 0), "-1 -1");
        Checks.due("the last of 100", after(100).find(0, 3, -1, 99), 99);
    }

    /** Each walk begins anew, wherever the one before it ended. */
    private static void nothingOfAnEarlierWalk() {
        Counted x = Make.template(3, 4, 501, 520);
        x.put(0, 2, 1);
        walks("one is pointed at", x, 0, 4);
        Make.refill(x, 3, 4, 501);
        walks("one is pointed at, and no MARK", x, 0, 3);
        Make.refill(x, 3, 520);
        faulty("none is pointed at any more", x, 0, 7, 1);
        Make.refill(x, 3);
        Checks.due("no fields of longer walks", x.find(0, 4, -1, 0) + " " + x.field(0, 1, 0) + " " + x.reference(0, 1),
                "-1 -1 0");
        Make.refill(x, 501);
        faulty("no elements of longer walks", x, 0, 7, 0);
        Counted y = Make.template(420, 450, 487, 468, 219, 100, 460, 480, 440, 400);
        Make.fill(y, 0, 4, 520);
        faulty("ends under operators, in a REPEAT", y, 0, 7, 2);
        Make.refill(y, 4);
        Checks.due("without them then", field(y, 0, 0), "0 4 12 2 -1 -1 10");
        Counted z = Make.template(218, 100);
        Make.fill(z, 0, 216, 3, 4);
        faulty("ends at a COUNT", z, 0, 6, 0);
        Make.refill(z, 4, 216, 3, 4);
        faulty("ends at another COUNT", z, 0, 6, 1);
        Checks.due("an ELEMENT is none", field(z, 0, 0), "0 4 12 2 -1 -1 10");
        Counted u = Make.template(3, 3, 502, 3);
        u.put(0, 2, 1);
        faulty("ends at a BIT", u, 0, 6, 3);
        Make.refill(u, 4);
        Checks.due("no BIT then", field(u, 0, 0), "0 4 12 2 -1 -1 10");
    }
}
