/** Promises 1, 7 and 8: a new object, what is compiled, FAULTs 1 to 5 and their places. */
public final class CompileTest {
    private static final String ILLEGAL = "IllegalArgumentException";

    public static void main(String[] args) {
        newObject();
        looked();
        fault1();
        fault2();
        fault2Many();
        fault3();
        fault4();
        fault5();
        nothingElseChanges();
        faultOfTheLatest();
        Checks.end("CompileTest");
    }

    private static void newObject() {
        Counted x = new Counted();
        Checks.due("no fault", x.fault(0), 0);
        Checks.due("no place", x.fault(1), -1);
        Checks.due("no template", x.compile(), 0);
        Checks.due("no fields", x.fields(7), 0);
        Checks.due("no message", x.byteAt(0), -1);
        Checks.due("nothing packed", x.group(-1) + " " + x.group(-2) + " " + x.group(0), "-1 -1 -1");
        Checks.due("nothing packed at all", x.packedAt(0), ObsMessages.MISSING);
        Checks.due("empty tape", x.feed(0, 1), 1);
        for (int s = 0; s < 8; s++) {
            Counted y = new Counted();
            for (int i = 0; i < 100; i++) {
                Checks.due("no values", y.get(s, i), ObsMessages.MISSING);
            }
        }
        for (int version = -1; version < 4; version++) {
            for (int code = 0; code < 64; code++) {
                Checks.due("no entries", x.drop(version, code), false);
            }
        }
        for (int list = -1; list < 16; list++) {
            Checks.due("no descriptors", x.append(list, 0), 1);
        }
    }

    private static void compiles(String what, Counted x, int looked) {
        Checks.due(what, () -> x.compile(), looked);
        Checks.due(what + ", fault", Make.fault(x), "0 at -1");
    }

    private static void faulty(String what, Counted x, int number, int place) {
        Checks.due(what, () -> x.compile(), ILLEGAL);
        Checks.due(what + ", fault", Make.fault(x), number + " at " + place);
    }

    private static void looked() {
        compiles("elements", Make.template(0, 1, 2), 3);
        compiles("what is repeated counts once", Make.template(200 + 16 * 2 + 15, 0, 1), 3);
        compiles("a COUNT counts", Make.template(216, 3, 0), 3);
        Counted x = Make.template(100, 217, 100, 101);
        Make.fill(x, 0, 0, 0);
        Make.fill(x, 1, 100);
        compiles("a sequence counts each time", x, 4 + 2 + 2 + 1 + 2);
        compiles("BITS and MARK have no fault here", Make.template(516, 520, 520), 3);
        x.clear(-1);
        compiles("an empty template", x, 0);
    }

    private static void fault1() {
        faulty("no entry", Make.template(0, 1, 6), 1, 2);
        faulty("no sequence", Make.template(0, 115), 1, 1);
        Counted x = Make.template(0, 103, 0);
        Make.fill(x, 3, 0, 0, 7);
        faulty("in a sequence: the place in the template", x, 1, 1);
        x.element(2, 7, 0, 0, 4);
        compiles("there now", x, 6);
        x.version(1);
        faulty("not in the version in use", x, 1, 1);
        x.element(-1, 7, 0, 0, 4);
        compiles("in the overlay", x, 6);
        faulty("the first of several", Make.template(0, 400, 9), 4, 1);
    }

    private static Counted chain(int sequences) {
        Counted x = Make.template(0, 100);
        for (int s = 0; s < sequences - 1; s++) {
            x.append(s, 101 + s);
        }
        return x;
    }

    private static void fault2() {
        Counted x = Make.template(0, 0, 105);
        Make.fill(x, 5, 0, 105);
        faulty("within itself", x, 2, 2);
        x.clear(5);
        Make.fill(x, 5, 0, 217, 106);
        Make.fill(x, 6, 105);
        faulty("within itself by another one", x, 2, 2);
        x = chain(6);
        x.append(5, 0);
        compiles("6 within one another", x, 8);
        x = chain(7);
        x.append(6, 0);
        faulty("7 within one another", x, 2, 1);
        faulty("the 7th has no descriptors: FAULT 1 comes first", chain(7), 1, 1);
        x = Make.template(100, 100);
        Make.fill(x, 0, 101, 101);
        Make.fill(x, 1, 0);
        compiles("behind one another is not within", x, 2 + 2 * (2 + 2));
    }

    /** 995 descriptors in 11 of the template. */
    private static Counted nearlyFull() {
        Counted x = Make.template(102, 101, 101, 101, 101, 101, 100, 100, 100, 100, 100);
        for (int i = 0; i < 8; i++) {
            x.append(0, 0);
            x.append(1, 100);
            x.append(2, 101);
        }
        return x;
    }

    private static void fault2Many() {
        Counted x = nearlyFull();
        compiles("995 descriptors", x, 995);
        Make.fill(x, -1, 0, 0, 0, 0);
        compiles("999 descriptors", x, 999);
        x.append(-1, 520);
        compiles("1000 descriptors", x, 1000);
        x.append(-1, 0);
        faulty("1001 descriptors", x, 2, 16);
        x = nearlyFull();
        Make.fill(x, -1, 0, 0, 100);
        faulty("within a sequence", x, 2, 13);
        x = nearlyFull();
        Make.fill(x, -1, 0, 0, 0, 0, 0, 63);
        faulty("ahead of FAULT 1", x, 2, 16);
        x = nearlyFull();
        Make.fill(x, -1, 0, 0, 0, 0, 0, 400);
        faulty("ahead of FAULT 4", x, 2, 16);
        x = nearlyFull();
        Make.fill(x, -1, 0, 0, 0, 0, 0, 217);
        faulty("ahead of FAULT 3", x, 2, 16);
        x = nearlyFull();
        Make.fill(x, -1, 0, 0, 0, 0, 216, 0, 0);
        faulty("the COUNT is one too many", x, 2, 16);
        x = nearlyFull();
        Make.fill(x, -1, 0, 0, 0, 0, 216, 520, 0);
        faulty("no COUNT, before that is looked at", x, 3, 15);
        x = nearlyFull();
        Make.fill(x, -1, 0, 0, 0, 0, 420);
        faulty("the 1000th leaves an operator", x, 4, 15);
    }

    private static void fault3() {
        compiles("just enough", Make.template(0, 200 + 16 * 8 + 1, 0, 0, 0, 0, 0, 0, 0, 0), 10);
        faulty("one too few", Make.template(0, 200 + 16 * 8 + 1, 0, 0, 0, 0, 0, 0, 0), 3, 1);
        faulty("nothing behind it", Make.template(217), 3, 0);
        faulty("nothing behind it for a COUNT", Make.template(0, 216), 3, 1);
        faulty("only a COUNT behind it", Make.template(0, 216, 3), 3, 1);
        faulty("no COUNT", Make.template(216, 100, 0), 3, 0);
        faulty("a REPEAT is no COUNT", Make.template(216, 217, 0), 3, 0);
        faulty("a COUNT without an entry", Make.template(216, 9, 0), 1, 1);
        faulty("too short, ahead of a COUNT without an entry", Make.template(216, 9), 3, 0);
        Counted x = Make.template(100, 0, 0, 0);
        Make.fill(x, 0, 0, 233, 0);
        faulty("the end is the sequence's", x, 3, 0);
        x = Make.template(200 + 16 * 2 + 2, 200 + 16 * 2 + 2, 0, 0);
        faulty("the end is that of what is to be repeated", x, 3, 1);
        compiles("within one another", Make.template(200 + 16 * 3 + 2, 200 + 16 * 2 + 2, 0, 0), 4);
        compiles("8 within one another", Make.template(329, 313, 297, 281, 265, 249, 233, 217, 0), 9);
        x = Make.template(329, 313, 297, 281, 265, 249, 233, 217, 100);
        for (int s = 0; s < 6; s++) {
            Make.fill(x, s, 313, 297, 281, 265, 249, 233, 217, s == 5 ? 0 : 101 + s);
        }
        compiles("as deep as it goes", x, 9 + 6 * 8);
        Checks.due("as deep as it goes, one field", x.fields(0), 1);
    }

    private static void fault4() {
        int[] ends = {400, 440, 460, 480};
        for (int end : ends) {
            compiles("begin and END " + end, Make.template(end + 1, end), 2);
            compiles("twice " + end, Make.template(end + 1, end, end + 2, end), 4);
            faulty("begins again " + end, Make.template(end + 1, end + 1, end), 4, 1);
            faulty("END without " + end, Make.template(520, end), 4, 1);
            faulty("END twice " + end, Make.template(end + 1, end, end), 4, 2);
            faulty("left " + end, Make.template(end + 1, 520, 520), 4, 2);
        }
        compiles("all at once", Make.template(417, 449, 468, 487, 400, 440, 460, 480), 8);
        compiles("WIDTH 0 and SCALE 0 begin", Make.template(416, 448, 0, 400, 440), 5);
        faulty("WIDTH 0 begins, and again", Make.template(416, 417, 400), 4, 1);
        faulty("WIDTH 0 is left", Make.template(416), 4, 0);
        fault4OfLists();
    }

    private static void fault4OfLists() {
        Counted x = Make.template(0, 100, 400);
        Make.fill(x, 0, 417, 0);
        faulty("left by a sequence", x, 4, 1);
        x = Make.template(417, 100, 0);
        Make.fill(x, 0, 0, 400);
        faulty("ended by a sequence", x, 4, 1);
        x = Make.template(417, 100, 400);
        Make.fill(x, 0, 400, 0, 418);
        faulty("another one left by a sequence", x, 4, 1);
        x.clear(0);
        Make.fill(x, 0, 400, 0, 417);
        compiles("left as it was found", x, 6);
        faulty("left by what is to be repeated", Make.template(233, 417, 0, 400), 4, 2);
        faulty("ended by what is to be repeated", Make.template(417, 217, 400), 4, 2);
        compiles("round what is to be repeated", Make.template(417, 233, 0, 0, 400), 5);
        x = Make.template(217, 100, 400);
        Make.fill(x, 0, 0, 217, 468);
        faulty("left within a sequence", x, 4, 1);
        x = Make.template(0, 0, 265, 0, 217, 417, 400, 0);
        faulty("the inner one first", x, 4, 5);
        faulty("of its own before that", Make.template(0, 417, 63), 1, 2);
    }

    private static void fault5() {
        compiles("width 1", Make.template(409, 0, 400), 3);
        faulty("width 0", Make.template(408, 0, 400), 5, 1);
        faulty("width below 0", Make.template(401, 0, 400), 5, 1);
        compiles("width 32", Make.template(428, 5, 400), 3);
        faulty("width 33", Make.template(429, 5, 400), 5, 1);
        compiles("width 32 with WIDTH 0", Make.template(416, 2, 400), 3);
        faulty("scale 9", Make.template(0, 449, 1, 440), 5, 2);
        faulty("scale -9", Make.template(447, 2, 440), 5, 1);
        compiles("scale 8 and -8", Make.template(449, 2, 440, 447, 1, 440), 6);
        compiles("scale 2 to 8 and to -5", Make.template(454, 4, 440, 441, 4, 440), 6);
        compiles("SHIFT and QUALITY have no FAULT 5", Make.template(487, 468, 2, 460, 480), 5);
        compiles("a COUNT is without operators", Make.template(409, 449, 216, 1, 0, 216, 3, 0, 440, 400), 10);
        faulty("FAULT 1 comes first", Make.template(401, 63, 400), 1, 1);
    }

    private static void nothingElseChanges() {
        Counted x = Make.template(0, 5);
        Make.values(x, 0, 3, 4);
        x.write(1, false);
        String before = Make.message(x);
        x.feed(1, 1);
        x.append(-1, 400);
        Checks.due("a fault", () -> x.compile(), ILLEGAL);
        Checks.due("the message stays", Make.message(x), before);
        Checks.due("the values stay", x.get(0, 0) + " " + x.get(0, 1), "3 4");
        Checks.due("the tape stays", x.feed(1, 1), 2);
        Checks.due("the template stays", x.append(-1, 0), 4);
    }

    private static void faultOfTheLatest() {
        Counted x = Make.template(0, 63);
        Checks.due("field", x.field(0, 0, 0), -1);
        Checks.due("reference", x.reference(0, 0), 0);
        Checks.due("find", x.find(0, 0, -1, 0), -1);
        Checks.due("questions leave no fault", Make.fault(x), "0 at -1");
        Checks.due("compile", () -> x.compile(), ILLEGAL);
        Checks.due("compile", Make.fault(x), "1 at 1");
        x.clear(-1);
        x.append(-1, 216);
        Checks.due("still the latest", Make.fault(x), "1 at 1");
        Checks.due("fields", () -> x.fields(0), ILLEGAL);
        Checks.due("fields", Make.fault(x), "3 at 0");
        Make.refill(x, 0, 0, 400);
        Checks.due("write", () -> x.write(1, true), ILLEGAL);
        Checks.due("write", Make.fault(x), "4 at 2");
        Make.refill(x, 408, 0, 400);
        Checks.due("read", () -> x.read(), ILLEGAL);
        Checks.due("read", Make.fault(x), "5 at 1");
        for (int what : new int[] {-1, 2, 3, Integer.MIN_VALUE, Integer.MAX_VALUE}) {
            Checks.due("another what", x.fault(what), -1);
        }
        Checks.due("no such n", () -> x.write(0, true), ILLEGAL);
        Checks.due("no such n is FAULT 0", Make.fault(x), "0 at -1");
        Checks.due("compile again", () -> x.compile(), ILLEGAL);
        Checks.due("no such subset", () -> x.fields(8), "IndexOutOfBoundsException");
        Checks.due("no such subset has no FAULT", Make.fault(x), "0 at -1");
        x.clear(-1);
        Checks.due("compile", () -> x.compile(), 0);
        Checks.due("no fault any more", Make.fault(x), "0 at -1");
    }
}
