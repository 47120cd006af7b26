/** Makes objects for the tests with few words. */
final class Make {
    private Make() {
    }

    /** Elements 0 .. 5 in version 0: widths 8, 1, 32, 5, 12, 20; scales 0, 8, -8, 0, 2, 0; references 0, 0, 0, 0, 10, -3. */
    static ObsMessages withElements() {
        ObsMessages x = new ObsMessages();
        x.element(0, 0, 0, 0, 8);
        x.element(0, 1, 8, 0, 1);
        x.element(0, 2, -8, 0, 32);
        x.element(0, 3, 0, 0, 5);
        x.element(0, 4, 2, 10, 12);
        x.element(0, 5, 0, -3, 20);
        return x;
    }

    static ObsMessages template(int... descriptors) {
        ObsMessages x = withElements();
        fill(x, -1, descriptors);
        return x;
    }

    static void fill(ObsMessages x, int list, int... descriptors) {
        for (int d : descriptors) {
            x.append(list, d);
        }
    }

    /** A new template in the place of the old one. */
    static void refill(ObsMessages x, int... descriptors) {
        x.clear(-1);
        fill(x, -1, descriptors);
    }

    static void values(ObsMessages x, int subset, long... values) {
        for (int i = 0; i < values.length; i++) {
            x.put(subset, i, values[i]);
        }
    }

    static void feed(ObsMessages x, int... bytes) {
        for (int b : bytes) {
            x.feed(b, 1);
        }
    }

    /** The message's bytes, as text. */
    static String message(ObsMessages x) {
        StringBuilder s = new StringBuilder();
        for (int i = 0; x.byteAt(i) != -1; i++) {
            s.append(i == 0 ? "" : " ").append(x.byteAt(i));
        }
        return s.toString();
    }

    /** The bits behind the head, as text; spaces in what is compared with are left out. */
    static String bits(ObsMessages x) {
        StringBuilder s = new StringBuilder();
        int count = 256 * x.byteAt(2) + x.byteAt(3);
        for (int i = 0; i < count; i++) {
            s.append(x.byteAt(4 + i / 8) >> 7 - i % 8 & 1);
        }
        return s.toString();
    }

    /** Feeds a message of some bits with the right head. */
    static void feedBits(ObsMessages x, int form, int n, String bits) {
        String b = bits.replace(" ", "");
        feed(x, form, n, b.length() / 256, b.length() % 256);
        for (int i = 0; i < b.length(); i += 8) {
            StringBuilder one = new StringBuilder(b.substring(i, Math.min(b.length(), i + 8)));
            while (one.length() < 8) {
                one.append('0');
            }
            feed(x, Integer.parseInt(one.toString(), 2));
        }
    }

    static String fault(ObsMessages x) {
        return x.fault(0) + " at " + x.fault(1);
    }
}
