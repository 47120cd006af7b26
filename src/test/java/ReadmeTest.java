import java.io.IOException;
import java.nio.file.Files;
import java.nio.file.Path;
import java.util.ArrayList;
import java.util.List;

/** The examples of README.md stand here once more, line by line, and are run; what their comments say must come. */
public final class ReadmeTest {
    public static void main(String[] args) throws IOException {
        message();
        template();
        grid();
        sameAsReadme();
        Checks.end("ReadmeTest");
    }

    private static void message() {
        ObsMessages x = new ObsMessages();
        x.element(0, 1, 1, -100, 10);              // version 0: element 1 has scale 1, reference -100, width 10
        x.element(ObsMessages.NONE, 2, 0, 0, 7);   // the overlay goes ahead of all versions
        x.append(ObsMessages.NONE, 1);             // the template: element 1 ..
        x.append(ObsMessages.NONE, 2);             // .. and element 2
        x.put(0, 0, 250);                          // subset 0, the value of field 0
        x.put(0, 1, 100);
        int bytes = x.write(1, false);             // one subset, PLAIN: 7 bytes
        for (int i = 0; i < bytes; i++) {
            x.feed(x.byteAt(i), 1);                // to the tape ..
        }
        int subsets = x.read();                    // .. and read again
        Checks.due("bytes", bytes, 7);
        Checks.due("subsets", subsets, 1);
        Checks.due("values", x.get(0, 0) + " " + x.get(0, 1), "250 100");
    }

    private static void template() {
        ObsMessages y = new ObsMessages();
        y.element(0, 1, 0, 0, 8);
        y.append(3, 1);                            // sequence 3: element 1
        y.append(ObsMessages.NONE, 216);           // REPEAT the next 1 descriptor; n = 0: a COUNT says how often
        y.append(ObsMessages.NONE, 1);             // the COUNT
        y.append(ObsMessages.NONE, 103);           // what is repeated: sequence 3
        y.append(ObsMessages.NONE, 420);           // WIDTH 4: from here on 4 bits more
        y.append(ObsMessages.NONE, 1);
        y.append(ObsMessages.NONE, 400);           // END of WIDTH
        y.append(ObsMessages.NONE, 502);           // BITS 2: for the latest two fields ELEMENT
        y.append(ObsMessages.NONE, 520);           // MARK: the first of these whose bit is 1
        y.put(0, 0, 2);                            // the COUNT: fields 1 and 2 are the repeated ones, field 3 has 12 bits
        y.put(0, 4, 0);                            // the bit for field 2
        y.put(0, 5, 1);                            // the bit for field 3
        int fields = y.fields(0);                  // 7
        int width = y.field(0, 3, 2);              // 12
        int target = y.field(0, 6, 4);             // the MARK points at field 3
        int second = y.find(0, 1, 1, 0);           // element 1 in repetition 1: field 2
        Checks.due("fields", fields, 7);
        Checks.due("width", width, 12);
        Checks.due("target", target, 3);
        Checks.due("second", second, 2);
        Checks.due("what the bits stand for", y.field(0, 4, 4) + " " + y.field(0, 5, 4), "2 3");
        fault(y);
    }

    private static void fault(ObsMessages y) {
        y.put(0, 0, 31);                           // a COUNT must be 1 .. 30
        try {
            y.write(1, true);
        } catch (IllegalArgumentException e) {
            int fault = y.fault(0);                // 6
            int place = y.fault(1);                // 100 * subset + field; the place in the template for FAULTs 1 to 5
            Checks.due("fault", fault, 6);
            Checks.due("place", place, 0);
            return;
        }
        Checks.due("write throws", false, true);
    }

    private static void grid() {
        ObsMessages z = new ObsMessages();
        z.point(0, 1000);                          // points that are not told are MISSING
        z.point(1, 1003);
        z.point(8, 1900);                          // in order, row 1 goes from the right: this is the third code
        int step = z.pack(8);                      // codes of 8 bits: STEP 2
        long about = z.packedAt(8);                // 1900 again: 1000 + 225 * 4
        int codes = z.group(ObsMessages.NONE);     // 3
        int cost = z.group(-2);                    // bits of all groups: 38
        int end = z.group(0);                      // the first group ends before code 2
        Checks.due("step", step, 2);
        Checks.due("about", about, 1900L);
        Checks.due("codes", codes, 3);
        Checks.due("cost", cost, 38);
        Checks.due("end", end, 2);
    }

    private static void sameAsReadme() throws IOException {
        List<String> here = new ArrayList<>();
        for (String line : Files.readAllLines(Path.of("src/test/java/ReadmeTest.java"))) {
            here.add(line.trim());
        }
        boolean within = false;
        int examples = 0;
        int at = 0;
        for (String line : Files.readAllLines(Path.of("README.md"))) {
            if (line.startsWith("```")) {
                within = line.equals("```java");
                examples += within ? 1 : 0;
            } else if (within) {
                int found = here.subList(at, here.size()).indexOf(line.trim());
                Checks.due("README.md has: " + line + " and it is run here, in order", found >= 0, true);
                at += Math.max(0, found + 1);
            }
        }
        Checks.due("examples", examples, 4);
    }
}
