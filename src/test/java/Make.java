/** Makes objects for the tests with few words. */
final class Make {
    private Make() {
    }

    /** Elements 0 .. 5 in version 0: widths 8, 1, 32, 5, 12, 20; scales 0, 8, -8, 0, 2, 0; references 0, 0, 0, 0, 10, -3. */
    static Counted withElements() {
        Counted x = new Counted();
        x.element(0, 0, 0, 0, 8);
        x.element(0, 1, 8, 0, 1);
        x.element(0, 2, -8, 0, 32);
        x.element(0, 3, 0, 0, 5);
        x.element(0, 4, 2, 10, 12);
        x.element(0, 5, 0, -3, 20);
        return x;
    }

    static Counted template(int... descriptors) {
        Counted x = withElements();
        fill(x, -1, descriptors);
        return x;
    }

    static void fill(Counted x, int list, int... descriptors) {
        for (int d : descriptors) {
            x.append(list, d);
        }
    }

    /** A new template in the place of the old one. */
    static void refill(Counted x, int... descriptors) {
        x.clear(-1);
        fill(x, -1, descriptors);
    }

    static void values(Counted x, int subset, long... values) {
        for (int i = 0; i < values.length; i++) {
            x.put(subset, i, values[i]);
        }
    }

    /** The first k values of a subset, as text; - for MISSING. */
    static String row(Counted x, int subset, int k) {
        StringBuilder s = new StringBuilder();
        for (int i = 0; i < k; i++) {
            long v = x.get(subset, i);
            s.append(i == 0 ? "" : " ").append(v == ObsMessages.MISSING ? "-" : String.valueOf(v));
        }
        return s.toString();
    }

    /** Feeds bytes, four in a call as long as there are so many. */
    static void feed(Counted x, int... bytes) {
        int i = 0;
        for (; i + 4 <= bytes.length; i += 4) {
            x.feed(bytes[i] << 24 | bytes[i + 1] << 16 | bytes[i + 2] << 8 | bytes[i + 3], 4);
        }
        for (; i < bytes.length; i++) {
            x.feed(bytes[i], 1);
        }
    }

    /** The message's bytes, as text. */
    static String message(Counted x) {
        StringBuilder s = new StringBuilder();
        int i = 0;
        for (int b = x.byteAt(0); b != -1; b = x.byteAt(i)) {
            s.append(i == 0 ? "" : " ").append(b);
            i++;
        }
        return s.toString();
    }

    /** The bits behind the head, as text. */
    static String bits(Counted x) {
        StringBuilder s = new StringBuilder();
        int count = 256 * x.byteAt(2) + x.byteAt(3);
        int b = 0;
        for (int i = 0; i < count; i++) {
            b = i % 8 == 0 ? x.byteAt(4 + i / 8) : b;
            s.append(b >> 7 - i % 8 & 1);
        }
        return s.toString();
    }

    /** The bytes of a message of some bits with the right head. */
    static int[] bytesOf(int form, int n, String bits) {
        String b = bits.replace(" ", "");
        int[] bytes = new int[4 + (b.length() + 7) / 8];
        bytes[0] = form;
        bytes[1] = n;
        bytes[2] = b.length() / 256;
        bytes[3] = b.length() % 256;
        for (int i = 0; i < b.length(); i++) {
            bytes[4 + i / 8] |= b.charAt(i) == '1' ? 128 >> i % 8 : 0;
        }
        return bytes;
    }

    static void feedBits(Counted x, int form, int n, String bits) {
        feed(x, bytesOf(form, n, bits));
    }

    static String fault(Counted x) {
        return x.fault(0) + " at " + x.fault(1);
    }
}
