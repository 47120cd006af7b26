import java.lang.reflect.InvocationTargetException;
import java.lang.reflect.Method;
import java.util.ArrayList;
import java.util.HashMap;
import java.util.List;
import java.util.Map;
import java.util.Random;

/** All promises: runs of calls, drawn by fixed seeds, on the class and on the model; every answer must be the same. */
public final class ModelTest {
    private static final int RUNS = 6000;
    private static final Map<String, Method> OURS = methodsOf(ObsMessages.class);
    private static final Map<String, Method> MODELS = methodsOf(ObsModel.class);
    private static final Map<Long, Integer> SEEN = new HashMap<>();

    private final Random random;
    private final ObsMessages ours = new ObsMessages();
    private final ObsModel model = new ObsModel();
    private final StringBuilder told = new StringBuilder();
    private boolean same = true;
    private int openOperators = 0;
    private int calls = 0;

    private ModelTest(long seed) {
        random = new Random(seed);
    }

    public static void main(String[] args) {
        for (int seed = 0; seed < RUNS; seed++) {
            ModelTest test = new ModelTest(seed);
            switch (seed % 6) {
                case 0 -> test.wildRun();
                case 1 -> test.gridRun();
                case 2 -> test.largeRun();
                default -> test.tamedRun();
            }
            Checks.due("run " + seed + (test.same ? "" : test.told.toString()), test.same, true);
            if (!test.same) {
                break;
            }
        }
        for (long fault = 0; fault <= 12; fault++) {
            Checks.due("FAULT " + fault + " came often enough", SEEN.getOrDefault(fault, 0) > 50, true);
        }
        System.out.println("FAULTs met: " + SEEN);
        Checks.end("ModelTest");
    }

    private static Map<String, Method> methodsOf(Class<?> type) {
        Map<String, Method> all = new HashMap<>();
        for (Method m : type.getDeclaredMethods()) {
            if (java.lang.reflect.Modifier.isPublic(m.getModifiers())) {
                m.setAccessible(true);
                all.put(m.getName(), m);
            }
        }
        return all;
    }

    private static Object answer(Method m, Object x, Object[] args) {
        try {
            return m.invoke(x, args);
        } catch (InvocationTargetException e) {
            return e.getCause().getClass().getSimpleName();
        } catch (IllegalAccessException e) {
            throw new IllegalStateException(e);
        }
    }

    /** Makes one call on both, and asks both for the FAULT where it may be another one; the model's answer, or NONE. */
    private Object both(String name, Object... args) {
        if (!same || calls + 3 > 512) {
            return -1;
        }
        calls++;
        Object got = answer(OURS.get(name), ours, args);
        Object want = answer(MODELS.get(name), model, args);
        told.append("\n  ").append(name).append(java.util.Arrays.toString(args)).append(" -> ").append(got);
        if (!String.valueOf(got).equals(String.valueOf(want))) {
            told.append(", due is ").append(want);
            same = false;
        }
        boolean mayFault = name.matches("compile|fields|write|read");
        if (mayFault) {
            SEEN.merge((long) model.fault(0), 1, Integer::sum);
        }
        if (mayFault || below(20) == 0) {
            sameFault();
        }
        return want;
    }

    private void sameFault() {
        calls += 2;
        String got = ours.fault(0) + " at " + ours.fault(1);
        String want = model.fault(0) + " at " + model.fault(1);
        if (!got.equals(want)) {
            told.append("; fault ").append(got).append(", due is ").append(want);
            same = false;
        }
    }

    private int below(int n) {
        return random.nextInt(n);
    }

    private int around(int least, int most) {
        return least - 1 + below(most - least + 3);
    }

    // ---- whatever comes

    private void wildRun() {
        for (int i = 0; i < 300; i++) {
            wildCall();
        }
    }

    private void wildCall() {
        switch (below(22)) {
            case 0, 1, 2 -> both("element", around(-1, 3), around(0, 9), around(-8, 8),
                    around(-1, 1) * 1000000000 / (1 + below(3)), around(1, 32));
            case 3 -> both("drop", around(-1, 3), around(0, 9));
            case 4 -> both("version", around(0, 3));
            case 5, 6, 7, 8, 9, 10 -> both("append", around(-1, below(5)), wildDescriptor());
            case 11 -> both("clear", around(-1, 3));
            case 12 -> both("compile");
            case 13 -> both("put", around(0, 7), around(0, 99), someValue());
            case 14 -> both("get", around(0, 7), around(0, 99));
            case 15 -> both("fields", around(0, 7));
            case 16 -> both("field", around(0, 7), around(0, 10), around(0, 5));
            case 17 -> both("reference", around(0, 7), around(0, 10));
            case 18 -> both("find", around(0, 1), around(0, 9), around(-1, 3), around(0, 3));
            case 19 -> both("write", around(1, 8), random.nextBoolean());
            case 20 -> both("feed", random.nextInt(), around(1, 4));
            default -> both("read");
        }
    }

    private int wildDescriptor() {
        int[] some = {below(10), below(10), below(10), 100 + below(4), 216 + below(64), 400 + below(32),
                440 + below(16), 460 + below(9), 480 + below(8), 500 + below(4), 520, below(530), 400, 440, 460, 480};
        return some[below(some.length)];
    }

    private long someValue() {
        long[] some = {0, 1, 2, 3, 30, 31, -1, below(1000), below(1000000), ObsMessages.MISSING, random.nextLong(),
                Long.MIN_VALUE, Long.MAX_VALUE, ObsMessages.MISSING + 1, ObsMessages.MISSING - 1};
        return some[below(some.length)];
    }

    // ---- templates that mostly compile, with values that mostly fit

    private void tamedRun() {
        makeElements();
        for (int s = 0; s < 4; s++) {
            fillList(s, 8, s);
        }
        fillList(-1, 18, 4);
        addMarks();
        int n = 1 + below(3);
        for (int s = 0; s < n; s++) {
            mendValues(s);
        }
        if (below(4) > 0) {
            makeAlike(n);
        }
        look(n);
        if (below(4) == 0) {
            both("version", below(4));
        }
        boolean packed = random.nextBoolean();
        Object bytes = both("write", n, packed);
        if (bytes instanceof Integer && (Integer) bytes > 0) {
            sendAndRead((Integer) bytes, n);
        }
        both("put", below(n), below(12), someValue());
        both("write", n, !packed);
        both("byteAt", below(50));
    }

    private void makeElements() {
        for (int code = 0; code < 6; code++) {
            int width = below(4) == 0 ? 1 + below(32) : 5 + below(8);
            int reference = below(3) == 0 ? random.nextInt(2000000001) - 1000000000 : below(3) - 1;
            both("element", below(5) - 1, code, below(17) - 8, reference, width);
        }
    }

    private void fillList(int list, int room, int sequences) {
        List<Integer> made = new ArrayList<>();
        int many = list == -1 ? 1 + below(room) : 1 + below(6);
        addPieces(made, Math.min(room, many), sequences, 0);
        boolean spoilt = below(12) == 0;
        for (int d : made) {
            both("append", list, spoilt && below(10) == 0 ? wildDescriptor() : d);
        }
    }

    /** BITS and as many MARKs as it could be, at the template's end, where there are fields to point at. */
    private void addMarks() {
        if (below(3) == 0) {
            return;
        }
        int n = 1 + below(below(3) == 0 ? 4 : 2);
        both("append", -1, 500 + n);
        for (int i = 0; i < n && below(4) > 0; i++) {
            both("append", -1, 520);
        }
        if (below(4) == 0) {
            both("append", -1, 217);
            both("append", -1, 501 + below(2));
        }
    }

    /** Adds some descriptors, operators with their END round others, and REPEATs with what they repeat. */
    private void addPieces(List<Integer> made, int room, int sequences, int depth) {
        int left = room;
        while (left > 0) {
            int kind = below(12);
            int o = below(4);
            boolean isFree = (openOperators & 1 << o) == 0;
            if (kind < 4 || left == 1 || depth > 3 || kind < 8 && !isFree) {
                made.add(leaf(sequences));
                left--;
            } else if (kind < 8 && left >= 3) {
                int[] last = {431, 455, 468, 487};
                int[] base = {400, 440, 460, 480};
                int k = o == 0 && below(3) > 0 ? 14 + below(5) : o == 1 && below(3) > 0 ? 7 + below(3)
                        : 1 + below(last[o] - base[o]);
                int inner = 1 + below(left - 2);
                made.add(base[o] + k);
                openOperators |= 1 << o;
                addPieces(made, inner, 0, depth + 1);
                openOperators &= ~(1 << o);
                made.add(base[o]);
                left -= inner + 2;
            } else {
                boolean counted = left >= 3 && random.nextBoolean();
                int spare = left - (counted ? 2 : 1);
                int x = 1 + below(Math.min(8, spare));
                made.add(200 + 16 * x + (counted ? 0 : 1 + below(3)));
                if (counted) {
                    made.add(below(6));
                }
                addPieces(made, x, sequences, depth + 1);
                left -= x + (counted ? 2 : 1);
            }
        }
    }

    private int leaf(int sequences) {
        int kind = below(60);
        if (kind == 0) {
            return 500 + 1 + below(3);
        }
        if (kind == 1) {
            return 520;
        }
        if (kind < 15 && sequences > 0) {
            return 100 + below(sequences);
        }
        return below(6);
    }

    /** Gives a subset values that fit, from the first field on, but now and then one that does not. */
    private void mendValues(int s) {
        for (int i = 0; i < 60; i++) {
            int kind = model.field(s, i, 0);
            if (kind == -1 || calls > 300) {
                return;
            }
            both("put", s, i, valueFor(s, i, kind));
        }
    }

    private long valueFor(int s, int i, int kind) {
        if (below(250) == 0) {
            return someValue();
        }
        if (kind == 3) {
            return below(4) == 0 ? 0 : 1;
        }
        if (kind == 2) {
            return 1 + below(3);
        }
        if (below(6) == 0) {
            return ObsMessages.MISSING;
        }
        long ones = (1L << model.field(s, i, 2)) - 1;
        long raw = below(3) == 0 ? ones - 1 : (long) (random.nextDouble() * ones);
        if (below(1500) == 0) {
            raw = below(2) == 0 ? ones : -1;
        }
        return model.reference(s, i) + raw;
    }

    private void makeAlike(int n) {
        for (int i = 0; i < 60; i++) {
            int kind = model.field(0, i, 0);
            if (kind == -1) {
                return;
            }
            for (int s = 1; s < n; s++) {
                boolean must = kind == 2 || kind == 3;
                if (must && below(20) > 0 || below(3) == 0 || model.field(s, i, 2) != model.field(0, i, 2)) {
                    both("put", s, i, model.get(0, i));
                }
            }
        }
    }

    private void look(int n) {
        both("compile");
        for (int s = 0; s < n; s++) {
            both("fields", s);
            for (int k = 0; k < 12; k++) {
                both("field", s, below(30), below(6));
                both("reference", s, below(30));
            }
            both("find", s, below(6), below(4) - 1, below(3));
        }
    }

    private void sendAndRead(int bytes, int n) {
        int wrongAt = below(2) == 0 ? below(bytes) : -1;
        int fed = below(20) == 0 ? bytes - 1 : bytes;
        for (int i = 0; i < fed && i < 150; i++) {
            int b = model.byteAt(i);
            both("byteAt", i);
            both("feed", i == wrongAt ? b ^ 1 << below(8) : b, 1);
        }
        if (below(30) == 0) {
            both("feed", 0, 1);
        }
        both("read");
        for (int i = 0; i < 12; i++) {
            both("get", below(n + 1), i);
        }
    }

    // ---- many fields, many descriptors

    private void largeRun() {
        for (int code = 0; code < 4; code++) {
            both("element", 0, code, 0, 0, 5 + code);
        }
        int most = 1 + below(7);
        for (int s = 0; s < most; s++) {
            fillLarge(s, s, 8);
        }
        fillLarge(-1, most, 1 + below(24));
        both("compile");
        both("fields", 0);
        for (int i = 0; i < 100; i++) {
            both("put", 0, i, (long) (below(4) == 0 ? 1 : below(30)));
        }
        both("fields", 0);
        both("write", 1, random.nextBoolean());
        both("field", 0, 97 + below(4), below(6));
        for (int i = 0; i < 30; i++) {
            int bits = below(2) == 0 ? 29 * 32 - 16 : 28 * 32 + below(17);
            both("feed", i == 0 ? 66 + below(2) << 24 | 1 << 16 | bits : i < 28 ? random.nextInt() & random.nextInt() : 0,
                    i == 29 ? 2 : 4);
        }
        both("read");
    }

    private void fillLarge(int list, int sequences, int room) {
        List<Integer> made = new ArrayList<>();
        addLarge(made, room, sequences, below(3) > 0);
        for (int d : made) {
            both("append", list, below(200) == 0 ? wildDescriptor() : d);
        }
    }

    private void addLarge(List<Integer> made, int room, int sequences, boolean fields) {
        int left = room;
        while (left > 0) {
            int kind = below(6);
            if (kind < 2 && left > 2) {
                boolean counted = below(5) == 0;
                int x = 1 + below(Math.min(8, left - 2));
                made.add(200 + 16 * x + (counted ? 0 : 1 + below(below(2) == 0 ? 3 : 15)));
                if (counted) {
                    made.add(below(4));
                }
                addLarge(made, x, sequences, fields);
                left -= x + (counted ? 2 : 1);
            } else if (kind < 4 && left > 1 && !fields) {
                made.add(416);
                made.add(400);
                left -= 2;
            } else {
                boolean isSequence = sequences > 0 && below(3) > 0;
                made.add(isSequence ? 100 + sequences - 1 - below(Math.min(2, sequences)) : below(fields ? 4 : 2));
                left--;
            }
        }
    }

    // ---- grids

    private void gridRun() {
        both("packedAt", 0);
        both("group", below(4) - 2);
        long spread = 1L << 1 + below(32);
        for (int turn = 0; turn < 3; turn++) {
            int missing = below(4);
            for (int i = 0; i < 64; i++) {
                long v = Math.min(2000000000L, (long) (random.nextDouble() * spread) - (below(3) == 0 ? spread / 3 : 0));
                both("point", i, missing > 0 && below(4) < missing ? ObsMessages.MISSING : Math.max(-2000000000L, v));
                if (below(10) == 0) {
                    spread = 1L << 1 + below(32);
                }
            }
            both("pack", below(10) == 0 ? around(1, 31) : 1 + below(31));
            for (int g = -3; g < 20; g++) {
                both("group", g);
            }
            for (int k = 0; k < 10; k++) {
                both("packedAt", around(0, 63));
            }
            both("point", around(0, 63), 2000000000L + around(0, 1));
            both("point", around(0, 63), -2000000000L - around(0, 1));
        }
    }
}
