/** Promises 7 and 8 at their edges: FAULTs 1 to 5 from both sides, what comes ahead of what, and the PLACE of each. */
public final class CompileEdgesTest {
    private static final String ILLEGAL = "IllegalArgumentException";
    private static final int[] ENDS = {400, 440, 460, 480};

    public static void main(String[] args) {
        looked();
        fault1();
        fault1InLists();
        fault2WithinItself();
        fault2SixWithin();
        fault2ThousandAndOne();
        fault2AheadOfAllElse();
        fault3Reach();
        fault3Count();
        fault3OfLists();
        fault4Operators();
        fault4Lists();
        fault4Places();
        fault5Widths();
        fault5Scales();
        fault5Else();
        firstFault();
        latestFault();
        faultStays();
        Checks.end("CompileEdgesTest");
    }

    private static void compiles(String what, Counted x, int looked) {
        Checks.due(what, () -> x.compile(), looked);
        Checks.due(what + ", fault", Make.fault(x), "0 at -1");
    }

    private static void faulty(String what, Counted x, int number, int place) {
        Checks.due(what, () -> x.compile(), ILLEGAL);
        Checks.due(what + ", fault", Make.fault(x), number + " at " + place);
        Checks.due(what + ", for fields()", () -> x.fields(7), ILLEGAL);
        Checks.due(what + ", for fields()", Make.fault(x), number + " at " + place);
        Checks.due(what + ", no field", x.field(0, 0, 0) + " " + x.reference(0, 0) + " " + x.find(0, 0, -1, 0), "-1 0 -1");
    }

    /** A template with sequence 0, and sequence 1 if there is one. */
    private static Counted lists(int[] template, int[]... sequences) {
        Counted x = Make.template(template);
        for (int s = 0; s < sequences.length; s++) {
            Make.fill(x, s, sequences[s]);
        }
        return x;
    }

    private static int[] list(int... descriptors) {
        return descriptors;
    }

    /** "what is to be repeated once, a sequence each time it stands; a COUNT's behind its REPEAT". */
    private static void looked() {
        compiles("nothing", Make.template(), 0);
        compiles("one", Make.template(0), 1);
        compiles("24", Make.template(0, 0, 0, 0, 0, 0, 0, 0, 0, 0, 0, 0, 0, 0, 0, 0, 0, 0, 0, 0, 0, 0, 0, 0), 24);
        compiles("15 times is once", Make.template(231, 0), 2);
        compiles("a COUNT", Make.template(216, 0, 0), 3);
        compiles("a sequence three times", lists(list(100, 100, 100), list(0, 3)), 9);
        compiles("a sequence to be repeated", lists(list(231, 100), list(0, 3)), 4);
        compiles("a sequence in a sequence", lists(list(101), list(0, 3), list(100, 100, 0)), 1 + 3 + 4);
    }

    // ---- FAULT 1

    /** "an element without an entry in force, a sequence without descriptors". */
    private static void fault1() {
        faulty("no entry", Make.template(63), 1, 0);
        Counted x = Make.template(0, 63, 0);
        faulty("no entry, the second", x, 1, 1);
        x.element(3, 63, 0, 0, 4);
        compiles("an entry", x, 3);
        x.version(2);
        faulty("an entry above the version in use", x, 1, 1);
        x.element(2, 63, 0, 0, 4);
        compiles("an entry of the version in use", x, 3);
        x.drop(2, 63);
        faulty("it is gone", x, 1, 1);
        x.element(-1, 63, 0, 0, 4);
        compiles("an entry of the overlay", x, 3);
        Counted y = Make.template(0, 115);
        faulty("no descriptors", y, 1, 1);
        y.append(15, 0);
        compiles("one descriptor", y, 3);
        y.clear(15);
        faulty("none any more", y, 1, 1);
        faulty("a COUNT without an entry", Make.template(216, 63, 0), 1, 1);
        compiles("what is not used needs no entry", lists(list(0), list(63)), 1);
    }

    /** "Its PLACE is the place in the template (0 on) of the descriptor at which that is", however deep it lies. */
    private static void fault1InLists() {
        faulty("in a sequence", lists(list(0, 100), list(0, 63)), 1, 1);
        faulty("in a sequence of a sequence", lists(list(0, 0, 101), list(0, 63), list(0, 100)), 1, 2);
        faulty("in what is to be repeated", Make.template(0, 233, 0, 63), 1, 3);
        faulty("in a sequence that is to be repeated", lists(list(0, 233, 0, 100), list(63)), 1, 3);
        faulty("in what a sequence repeats", lists(list(0, 100), list(217, 63)), 1, 1);
        faulty("a COUNT in a sequence", lists(list(0, 0, 100), list(216, 63, 0)), 1, 2);
        faulty("behind a sequence", lists(list(100, 63), list(0, 0, 0)), 1, 1);
        faulty("an empty sequence in a sequence", lists(list(0, 100), list(0, 115)), 1, 1);
    }

    // ---- FAULT 2

    /** "(behind 1): a sequence within itself". */
    private static void fault2WithinItself() {
        faulty("at once", lists(list(100), list(100)), 2, 0);
        faulty("behind others", lists(list(0, 100), list(0, 0, 100)), 2, 1);
        faulty("by another one", lists(list(100), list(101), list(100)), 2, 0);
        faulty("to be repeated", lists(list(0, 217, 100), list(217, 100)), 2, 2);
        compiles("twice, but not within", lists(list(100, 101, 100), list(0), list(100, 100)), 3 + 1 + 4 + 1);
        faulty("FAULT 1 in it comes before that", lists(list(100), list(63, 100)), 1, 0);
        faulty("FAULT 1 behind that does not", lists(list(100), list(100, 63)), 2, 0);
    }

    /** Sequences within one another, the last with one element; each in what is to be repeated, if wanted. */
    private static Counted chain(int sequences, boolean repeated) {
        Counted x = Make.template(0, 0, 100);
        for (int s = 0; s < sequences; s++) {
            if (repeated) {
                x.append(s, 217);
            }
            x.append(s, s == sequences - 1 ? 0 : 101 + s);
        }
        return x;
    }

    /** "or more than 6 within one another". */
    private static void fault2SixWithin() {
        for (int n = 1; n <= 9; n++) {
            if (n <= 6) {
                compiles(n + " within one another", chain(n, false), 3 + n);
                compiles(n + " within one another, repeated", chain(n, true), 3 + 2 * n);
            } else {
                faulty(n + " within one another", chain(n, false), 2, 2);
                faulty(n + " within one another, repeated", chain(n, true), 2, 2);
            }
        }
        Counted x = chain(7, false);
        x.clear(6);
        faulty("the 7th has no descriptors: FAULT 1 comes first", x, 1, 2);
        Counted y = chain(6, false);
        Make.fill(y, -1, 101, 105);
        compiles("6 again behind them", y, 9 + 2 + 5 + 1);
        y.append(5, 100);
        faulty("itself, as the 7th", y, 2, 2);
    }

    /** 995 descriptors in 11 of the template: sequences of 8, 72 and 584. */
    private static Counted nearlyFull(int... more) {
        Counted x = Make.template(102, 101, 101, 101, 101, 101, 100, 100, 100, 100, 100);
        for (int i = 0; i < 8; i++) {
            x.append(0, 0);
            x.append(1, 100);
            x.append(2, 101);
        }
        Make.fill(x, -1, more);
        return x;
    }

    /** "or the 1001st descriptor". */
    private static void fault2ThousandAndOne() {
        compiles("999", nearlyFull(0, 0, 0, 0), 999);
        compiles("1000", nearlyFull(0, 0, 0, 0, 0), 1000);
        faulty("1001", nearlyFull(0, 0, 0, 0, 0, 0), 2, 16);
        faulty("far more", nearlyFull(102, 102), 2, 11);
        Counted x = nearlyFull(0, 103);
        Make.fill(x, 3, 0, 0, 0);
        compiles("1000, the last in a sequence", x, 1000);
        x.append(3, 0);
        faulty("1001, the last in a sequence", x, 2, 12);
        compiles("1000, the last to be repeated 15 times", nearlyFull(0, 0, 0, 231, 0), 1000);
        faulty("1001, the last to be repeated", nearlyFull(0, 0, 0, 0, 217, 0), 2, 16);
        compiles("1000, the last but one a COUNT", nearlyFull(0, 0, 216, 0, 0), 1000);
        faulty("1001, the last one counted", nearlyFull(0, 0, 0, 216, 0, 0), 2, 16);
        faulty("1001, a COUNT", nearlyFull(0, 0, 0, 0, 216, 0, 0), 2, 16);
        compiles("1000, a MARK", nearlyFull(0, 0, 0, 516, 520), 1000);
        faulty("1001, a MARK", nearlyFull(0, 0, 0, 0, 516, 520), 2, 16);
    }

    /** "(ahead of all else)": at the 1001st, but not at what stands before it. */
    private static void fault2AheadOfAllElse() {
        faulty("ahead of 1, an element", nearlyFull(0, 0, 0, 0, 0, 63), 2, 16);
        faulty("ahead of 1, a sequence", nearlyFull(0, 0, 0, 0, 0, 115), 2, 16);
        faulty("ahead of 1, a COUNT", nearlyFull(0, 0, 0, 0, 216, 63, 0), 2, 16);
        faulty("ahead of 3", nearlyFull(0, 0, 0, 0, 0, 217), 2, 16);
        faulty("ahead of 4, END", nearlyFull(0, 0, 0, 0, 0, 400), 2, 16);
        faulty("ahead of 4, begins again", nearlyFull(0, 0, 0, 0, 417, 417), 2, 16);
        faulty("ahead of 5", nearlyFull(0, 0, 0, 0, 401, 0), 2, 16);
        faulty("not ahead of 1 at the 1000th", nearlyFull(0, 0, 0, 0, 63, 0), 1, 15);
        faulty("not ahead of 3 at the 1000th", nearlyFull(0, 0, 0, 0, 233, 0), 3, 15);
        faulty("not ahead of 3 at the 1000th, no COUNT", nearlyFull(0, 0, 0, 0, 216, 520, 0), 3, 15);
        faulty("not ahead of 4 at the 1000th", nearlyFull(0, 0, 0, 0, 400, 0), 4, 15);
        faulty("not ahead of 5 at the 1000th", nearlyFull(0, 0, 0, 401, 0, 0), 5, 15);
        faulty("4 at the end, the 1000th", nearlyFull(0, 0, 0, 0, 417), 4, 15);
        faulty("4 of what is to be repeated, the 1000th", nearlyFull(0, 0, 0, 217, 417, 400), 4, 15);
    }

    // ---- FAULT 3

    /** "REPEAT whose x reach beyond its list's end": for each x one too few, and just as many. */
    private static void fault3Reach() {
        for (int x = 1; x <= 8; x++) {
            for (int n = 0; n <= 15; n += 5) {
                Counted o = Make.template(0, 200 + 16 * x + n);
                if (n == 0) {
                    o.append(-1, 3);
                }
                for (int i = 1; i < x; i++) {
                    o.append(-1, 520);
                }
                faulty("REPEAT " + x + " with one too few", o, 3, 1);
                o.append(-1, 520);
                compiles("REPEAT " + x, o, 2 + x + (n == 0 ? 1 : 0));
                o.append(-1, 520);
                compiles("REPEAT " + x + " and one behind", o, 3 + x + (n == 0 ? 1 : 0));
            }
        }
    }

    /** "or with n = 0 without an element's descriptor behind it (before that is looked at by itself)". */
    private static void fault3Count() {
        for (int d : new int[] {100, 115, 216, 217, 343, 400, 416, 440, 460, 480, 501, 516, 520}) {
            faulty(d + " is no COUNT", lists(list(0, 216, d, 0, 0), list(0)), 3, 1);
        }
        for (int d : new int[] {0, 63}) {
            Counted x = Make.template(216, d, 3);
            x.element(0, 63, 0, 0, 4);
            compiles(d + " is a COUNT", x, 3);
        }
        faulty("nothing behind it", Make.template(0, 216), 3, 1);
        faulty("a COUNT, and nothing behind it", Make.template(0, 216, 3), 3, 1);
        faulty("before an empty sequence is looked at", Make.template(216, 115, 0), 3, 0);
        faulty("before a REPEAT is", Make.template(216, 343, 0), 3, 0);
        faulty("before an END is", Make.template(216, 400, 0), 3, 0);
        faulty("too short, before the COUNT is looked at", Make.template(216, 63), 3, 0);
        faulty("the COUNT, before what it counts", Make.template(216, 63, 62), 1, 1);
        faulty("what it counts", Make.template(216, 3, 62), 1, 2);
    }

    /** "beyond its list's end": that of a sequence, or of what is to be repeated. */
    private static void fault3OfLists() {
        faulty("the sequence's, not the template's", lists(list(0, 100, 0, 0), list(0, 217)), 3, 1);
        compiles("within the sequence", lists(list(0, 100), list(217, 0)), 4);
        faulty("that of what is to be repeated", Make.template(233, 0, 217, 0), 3, 2);
        faulty("that of what is to be repeated, at once", Make.template(217, 217, 0), 3, 1);
        compiles("just to that end", Make.template(249, 0, 217, 0), 4);
        faulty("a COUNT behind that end", Make.template(217, 216, 3, 0), 3, 1);
        faulty("what is counted behind that end", Make.template(233, 216, 3, 0), 3, 1);
        compiles("a COUNT within", Make.template(249, 216, 3, 0), 4);
        compiles("8 within one another", Make.template(329, 313, 297, 281, 265, 249, 233, 217, 0), 9);
        faulty("the innermost of 8", Make.template(329, 313, 297, 281, 265, 249, 233, 233, 0, 0), 3, 7);
    }

    // ---- FAULT 4

    /** "an operator that has begun, begins again, or an END without that": each operator, its first and last k. */
    private static void fault4Operators() {
        int[] lasts = {431, 455, 468, 487};
        for (int o = 0; o < 4; o++) {
            int end = ENDS[o];
            for (int begin : new int[] {end + 1, lasts[o]}) {
                compiles("begins and ends " + begin, Make.template(520, begin, end), 3);
                compiles("begins twice, with END " + begin, Make.template(begin, end, begin, end), 4);
                faulty("begins again, the same " + begin, Make.template(begin, begin, end), 4, 1);
                faulty("begins again, another " + begin, Make.template(begin, end + 2, end), 4, 1);
                faulty("is left " + begin, Make.template(520, begin, 520, 520), 4, 3);
                faulty("is left at once " + begin, Make.template(520, begin), 4, 1);
                faulty("END twice " + begin, Make.template(begin, end, end), 4, 2);
            }
            faulty("END without " + end, Make.template(end), 4, 0);
            for (int other = 0; other < 4; other++) {
                if (other != o) {
                    faulty("END of another " + end, Make.template(ENDS[other] + 1, end), 4, 1);
                    compiles("another meanwhile " + end, Make.template(end + 1, ENDS[other] + 1, end, ENDS[other]), 4);
                }
            }
        }
        compiles("WIDTH 0 and SCALE 0 begin", Make.template(416, 448, 400, 440), 4);
        faulty("WIDTH 0 again", Make.template(416, 416), 4, 1);
        faulty("SCALE 0 is left", Make.template(448), 4, 0);
    }

    /** "or one that a list (a sequence's, what is to be repeated, the template) leaves otherwise than it found it". */
    private static void fault4Lists() {
        for (int end : ENDS) {
            faulty("begun by a sequence", lists(list(0, 100, end), list(end + 1, 520)), 4, 1);
            faulty("ended by a sequence", lists(list(end + 1, 100), list(520, end)), 4, 1);
            faulty("another one by a sequence", lists(list(end + 1, 100, end), list(end, end + 2)), 4, 1);
            compiles("the same one again by a sequence", lists(list(end + 1, 100, end), list(end, end + 1)), 5);
            compiles("begun and ended by a sequence", lists(list(0, 100), list(end + 1, end)), 4);
            compiles("round a sequence", lists(list(end + 1, 100, end), list(520)), 4);
            faulty("begun by what is to be repeated", Make.template(217, end + 1, end), 4, 1);
            faulty("ended by what is to be repeated", Make.template(end + 1, 217, end), 4, 2);
            faulty("another one by what is to be repeated", Make.template(end + 1, 233, end, end + 2, end), 4, 3);
            compiles("begun and ended by what is to be repeated", Make.template(233, end + 1, end), 3);
            compiles("round what is to be repeated", Make.template(end + 1, 217, 520, end), 4);
            compiles("round a REPEAT with COUNT", Make.template(end + 1, 216, 3, 520, end), 5);
            faulty("begun by what is counted", Make.template(216, 3, end + 1, end), 4, 2);
        }
    }

    /** "at its last descriptor": the last one of the list, and of the lists that end together the innermost. */
    private static void fault4Places() {
        faulty("the last that is to be repeated", Make.template(0, 265, 417, 520, 520, 520, 400), 4, 5);
        faulty("the template's last, in what is to be repeated", Make.template(417, 233, 520, 520), 4, 3);
        faulty("the template's last, a sequence", lists(list(417, 520, 100), list(520, 520)), 4, 2);
        faulty("the sequence's last, a sequence", lists(list(520, 101, 520), list(520), list(417, 100)), 4, 1);
        faulty("the inner list comes first", Make.template(265, 417, 217, 449, 440), 4, 3);
        faulty("the sequence in what is to be repeated", lists(list(0, 233, 100, 400), list(417)), 4, 2);
        faulty("its own fault at the last comes first", Make.template(417, 63), 1, 1);
        faulty("its own FAULT 5 at the last comes first", Make.template(401, 0), 5, 1);
    }

    // ---- FAULT 5

    /** "an element's width with that of WIDTH is not 1 .. 32": each width with each WIDTH. */
    private static void fault5Widths() {
        for (int width = 1; width <= 32; width++) {
            for (int k = 1; k <= 31; k++) {
                Counted x = Make.template(400 + k, 40, 400);
                x.element(0, 40, 0, 0, width);
                int sum = width + k - 16;
                if (sum >= 1 && sum <= 32) {
                    compiles("width " + sum, x, 3);
                } else {
                    faulty("width " + sum, x, 5, 1);
                }
            }
        }
    }

    /** "or its scale with that of SCALE is not -8 .. 8": each scale with each SCALE. */
    private static void fault5Scales() {
        for (int scale = -8; scale <= 8; scale++) {
            for (int k = 1; k <= 15; k++) {
                Counted x = Make.template(0, 440 + k, 40, 440);
                x.element(0, 40, scale, 0, 4);
                int sum = scale + k - 8;
                if (sum >= -8 && sum <= 8) {
                    compiles("scale " + sum, x, 4);
                } else {
                    faulty("scale " + sum, x, 5, 2);
                }
            }
        }
    }

    /** FAULT 5 is where the element is, with the entry in force; what adds neither width nor scale has none. */
    private static void fault5Else() {
        compiles("behind the END", Make.template(401, 400, 0), 3);
        faulty("in a sequence", lists(list(0, 408, 100, 400), list(0)), 5, 2);
        faulty("in what is to be repeated", Make.template(408, 217, 0, 400), 5, 2);
        faulty("FAULT 1 comes first", Make.template(401, 63, 400), 1, 1);
        compiles("SHIFT 7 and QUALITY 8", Make.template(487, 468, 2, 5, 460, 480), 6);
        compiles("nothing is added to a COUNT", Make.template(401, 447, 216, 2, 520, 216, 1, 520, 440, 400), 10);
        Counted x = Make.template(431, 0, 400);
        compiles("the entry in force", x, 3);
        x.element(1, 0, 0, 0, 18);
        faulty("another entry in force", x, 5, 1);
        x.version(0);
        compiles("the entry in force again", x, 3);
    }

    // ---- the faults of several, and fault()

    /** "up to the first fault". */
    private static void firstFault() {
        faulty("1, then 3", Make.template(0, 63, 217), 1, 1);
        faulty("3, then 1", Make.template(0, 249, 63, 0), 3, 1);
        faulty("4, then 1", Make.template(400, 63), 4, 0);
        faulty("5, then 4", Make.template(401, 0, 401), 5, 1);
        faulty("2, then 1", lists(list(100, 63), list(100)), 2, 0);
        faulty("1 of what is to be repeated, then 4 of it", Make.template(233, 417, 63), 1, 2);
    }

    /** "The FAULT of the latest compile(), fields(), write() or read(), 0 if it had none; its place, NONE without". */
    private static void latestFault() {
        Counted x = Make.template(0, 63);
        Checks.due("nothing compiled", Make.fault(x), "0 at -1");
        Checks.due("compile", () -> x.compile(), ILLEGAL);
        Checks.due("compile", Make.fault(x), "1 at 1");
        Make.refill(x, 520);
        Checks.due("fields", () -> x.fields(2), ILLEGAL);
        Checks.due("fields", Make.fault(x), "7 at 200");
        Make.refill(x, 3);
        x.put(0, 0, 99);
        Checks.due("write", () -> x.write(1, false), ILLEGAL);
        Checks.due("write", Make.fault(x), "9 at 0");
        Checks.due("read", () -> x.read(), ILLEGAL);
        Checks.due("a FAULT without a place", Make.fault(x), "11 at -1");
        Checks.due("compile has none", x.compile() + " " + Make.fault(x), "1 0 at -1");
        Checks.due("write", () -> x.write(1, true), ILLEGAL);
        Checks.due("fields has none", x.fields(0) + " " + Make.fault(x), "1 0 at -1");
        Checks.due("write", () -> x.write(1, true), ILLEGAL);
        x.put(0, 0, 9);
        Checks.due("write has none", x.write(1, false) + " " + Make.fault(x), "5 0 at -1");
        Checks.due("read", () -> x.read(), ILLEGAL);
        Make.feedBits(x, 66, 1, "00000");
        Checks.due("read has none", x.read() + " " + Make.fault(x), "1 0 at -1");
        for (int n : new int[] {0, 9}) {
            Checks.due("read", () -> x.read(), ILLEGAL);
            Checks.due("write, no such n", () -> x.write(n, false), ILLEGAL);
            Checks.due("write, no such n, has FAULT 0", Make.fault(x), "0 at -1");
        }
        for (int subset : new int[] {-1, 8}) {
            Checks.due("read", () -> x.read(), ILLEGAL);
            Checks.due("fields, no such subset", () -> x.fields(subset), "IndexOutOfBoundsException");
            Checks.due("fields, no such subset, has no FAULT", Make.fault(x), "0 at -1");
        }
    }

    /** All other calls leave the FAULT alone, answered or refused; "NONE for another what". */
    private static void faultStays() {
        Counted x = Make.template(3, 217);
        Checks.due("compile", () -> x.compile(), ILLEGAL);
        Runnable[] others = {() -> x.element(0, 7, 0, 0, 4), () -> x.element(0, 64, 0, 0, 4), () -> x.drop(0, 7),
            () -> x.version(2), () -> x.version(4), () -> x.append(3, 0), () -> x.append(3, 64), () -> x.clear(3),
            () -> x.clear(16), () -> x.put(0, 0, 1), () -> x.put(8, 0, 1), () -> x.get(0, 0), () -> x.get(0, 100),
            () -> x.field(0, 0, 0), () -> x.reference(0, 0), () -> x.find(0, 3, -1, 0), () -> x.byteAt(0),
            () -> x.feed(0, 1), () -> x.feed(0, 5), () -> x.point(0, 1), () -> x.point(64, 1), () -> x.pack(4),
            () -> x.pack(0), () -> x.packedAt(0), () -> x.group(0), () -> x.clear(-1), () -> x.append(-1, 520),
            () -> x.field(0, 0, 0), () -> x.find(0, 3, -1, 0), () -> x.reference(0, 0)};
        for (int i = 0; i < others.length; i++) {
            Checks.run(others[i]);
            Checks.due("the FAULT stays, call " + i, Make.fault(x), "3 at 1");
        }
        for (int what : new int[] {-1, -2, 2, 3, Integer.MIN_VALUE, Integer.MAX_VALUE}) {
            Checks.due("another what", x.fault(what), -1);
        }
    }
}
