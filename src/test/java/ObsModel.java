import java.util.ArrayDeque;
import java.util.ArrayList;
import java.util.Arrays;
import java.util.Deque;
import java.util.HashMap;
import java.util.List;
import java.util.Map;

/**
 * The document once more, written in another way (recursion over lists, bits as text, exceptions for faults), for
 * ModelTest to compare with. It has the face of ObsMessages, and room and speed do not matter here.
 */
final class ObsModel {
    static final int NONE = -1;
    static final long MISSING = -9000000000000000000L;

    private static final class Fault extends RuntimeException {
        private static final long serialVersionUID = 1L;
        final int number;
        final int place;

        Fault(int number, int place) {
            this.number = number;
            this.place = place;
        }
    }

    private static final class Field {
        int kind;
        int code = NONE;
        int width;
        int scale;
        long reference;
        int target = NONE;
        int repetition;
        long value;

        long ones() {
            return (1L << width) - 1;
        }

        boolean hasRaw() {
            if (kind == 3) {
                return value == 0 || value == 1;
            }
            if (value == MISSING) {
                return true;
            }
            java.math.BigInteger raw = java.math.BigInteger.valueOf(value)
                    .subtract(java.math.BigInteger.valueOf(reference));
            return raw.signum() >= 0 && raw.compareTo(java.math.BigInteger.valueOf(ones() - 1)) <= 0;
        }

        boolean isMissing() {
            return kind != 3 && value == MISSING;
        }

        long raw() {
            return isMissing() ? ones() : value - reference;
        }
    }

    /** Where the value of a field comes from. */
    private interface Source {
        long value(Field f, int i);
    }

    private final Map<String, int[]> entries = new HashMap<>();
    private final Map<Integer, List<Integer>> lists = new HashMap<>();
    private final long[][] values = new long[8][100];
    private int inUse = 3;
    private int faultNumber = 0;
    private int faultPlace = NONE;
    private List<Integer> message = new ArrayList<>();
    private final List<Integer> tape = new ArrayList<>();

    ObsModel() {
        for (long[] row : values) {
            Arrays.fill(row, MISSING);
        }
        for (int list = -1; list < 16; list++) {
            lists.put(list, new ArrayList<>());
        }
        Arrays.fill(points, MISSING);
        Arrays.fill(packed, MISSING);
    }

    private static void illegalUnless(boolean fine) {
        if (!fine) {
            throw new IllegalArgumentException();
        }
    }

    private static boolean within(long x, long least, long most) {
        return x >= least && x <= most;
    }

    // ---- tables

    public void element(int version, int code, int scale, int reference, int width) {
        illegalUnless(within(version, -1, 3) && within(code, 0, 63) && within(scale, -8, 8)
                && within(reference, -1000000000, 1000000000) && within(width, 1, 32));
        entries.put(version + "/" + code, new int[] {scale, reference, width});
    }

    public boolean drop(int version, int code) {
        return entries.remove(version + "/" + code) != null;
    }

    public void version(int n) {
        illegalUnless(within(n, 0, 3));
        inUse = n;
    }

    public int append(int list, int d) {
        illegalUnless(lists.containsKey(list) && (within(d, 0, 63) || within(d, 100, 115) || within(d, 216, 343)
                || within(d, 400, 431) || within(d, 440, 455) || within(d, 460, 468) || within(d, 480, 487)
                || within(d, 501, 516) || d == 520));
        if (lists.get(list).size() == (list == -1 ? 24 : 8)) {
            throw new IllegalStateException();
        }
        lists.get(list).add(d);
        return lists.get(list).size();
    }

    public void clear(int list) {
        illegalUnless(lists.containsKey(list));
        lists.get(list).clear();
    }

    private int[] entry(int code) {
        int[] e = entries.get("-1/" + code);
        for (int v = inUse; v >= 0 && e == null; v--) {
            e = entries.get(v + "/" + code);
        }
        return e;
    }

    // ---- compiled

    private int looked;
    private int place;
    private int[] ops;
    private Deque<Integer> inside;

    private static int operator(int d) {
        return within(d, 400, 431) ? 0 : within(d, 440, 455) ? 1 : within(d, 460, 468) ? 2 : within(d, 480, 487) ? 3
                : NONE;
    }

    private static final int[] BASE = {400, 440, 460, 480};

    private static int adds(int k, int middle) {
        return k == 0 ? 0 : k - middle;
    }

    private int look() {
        looked = 0;
        place = 0;
        ops = new int[4];
        inside = new ArrayDeque<>();
        lookOver(lists.get(-1), 0);
        return looked;
    }

    private void lookOne(int where) {
        if (where >= 0) {
            place = where;
        }
        looked++;
        if (looked == 1001) {
            throw new Fault(2, place);
        }
    }

    /** first: the place of the list's first descriptor in the template, far below 0 if it is not there. */
    private void lookOver(List<Integer> list, int first) {
        int[] found = ops.clone();
        int p = 0;
        while (p < list.size()) {
            int d = list.get(p);
            lookOne(first + p);
            if (d < 64) {
                lookAtElement(d);
            } else if (d < 200) {
                lookAtSequence(d - 100);
            } else if (d < 400) {
                int x = (d - 200) / 16;
                int counts = (d - 200) % 16 == 0 ? 1 : 0;
                int from = p + 1 + counts;
                if (from + x > list.size() || counts == 1 && list.get(p + 1) > 63) {
                    throw new Fault(3, place);
                }
                if (counts == 1) {
                    lookOne(first + p + 1);
                    if (entry(list.get(p + 1)) == null) {
                        throw new Fault(1, place);
                    }
                }
                lookOver(list.subList(from, from + x), first + from);
                p = from + x - 1;
            } else if (operator(d) != NONE) {
                int o = operator(d);
                int k = d - BASE[o];
                if ((k == 0) == (ops[o] == 0)) {
                    throw new Fault(4, place);
                }
                ops[o] = k;
            }
            p++;
        }
        if (!Arrays.equals(found, ops)) {
            throw new Fault(4, place);
        }
    }

    private void lookAtElement(int code) {
        int[] e = entry(code);
        if (e == null) {
            throw new Fault(1, place);
        }
        if (!within(e[2] + adds(ops[0], 16), 1, 32) || !within(e[0] + adds(ops[1], 8), -8, 8)) {
            throw new Fault(5, place);
        }
    }

    private void lookAtSequence(int s) {
        if (lists.get(s).isEmpty()) {
            throw new Fault(1, place);
        }
        if (inside.contains(s) || inside.size() == 6) {
            throw new Fault(2, place);
        }
        inside.push(s);
        lookOver(lists.get(s), -1000);
        inside.pop();
    }

    public int compile() {
        return (int) faulty(() -> look());
    }

    private interface Work {
        long done();
    }

    private long faulty(Work work) {
        faultNumber = 0;
        faultPlace = NONE;
        try {
            return work.done();
        } catch (Fault f) {
            faultNumber = f.number;
            faultPlace = f.place;
        }
        throw new IllegalArgumentException();
    }

    public int fault(int what) {
        return what == 0 ? faultNumber : what == 1 ? faultPlace : NONE;
    }

    // ---- values

    private void inBounds(boolean fine) {
        if (!fine) {
            throw new IndexOutOfBoundsException();
        }
    }

    public void put(int subset, int i, long v) {
        inBounds(within(subset, 0, 7) && within(i, 0, 99));
        values[subset][i] = v;
    }

    public long get(int subset, int i) {
        inBounds(within(subset, 0, 7) && within(i, 0, 99));
        return values[subset][i];
    }

    // ---- walked

    private List<Field> given;
    private List<Integer> elements;
    private List<Integer> pointed;
    private Source source;
    private boolean checked;
    private int subsetPlace;
    private int come;

    /** Walks a compiled template; what has been given stays in given, also when a fault ends it. */
    private List<Field> walk(int subset, Source from, boolean check) {
        given = new ArrayList<>();
        elements = new ArrayList<>();
        pointed = new ArrayList<>();
        source = from;
        checked = check;
        subsetPlace = 100 * subset;
        come = 0;
        ops = new int[4];
        walkOver(lists.get(-1), NONE);
        return given;
    }

    private Fault faultHere(int number) {
        return new Fault(number, subsetPlace + given.size());
    }

    private void comeTo() {
        come++;
        if (come > 2000) {
            throw faultHere(8);
        }
    }

    private Field give(int kind, int width, int scale, long reference, int repetition) {
        Field f = new Field();
        f.kind = kind;
        f.width = width;
        f.scale = scale;
        f.reference = reference;
        f.repetition = repetition;
        return f;
    }

    private void settle(Field f) {
        if (given.size() == 100) {
            throw faultHere(8);
        }
        given.add(f);
        int i = given.size() - 1;
        int at = subsetPlace + i;
        f.value = source.value(f, i);
        if (f.kind == 2 && !within(f.value, 1, 30) || f.kind == 3 && !within(f.value, 0, 1)) {
            throw new Fault(6, at);
        }
        if (checked && !f.hasRaw()) {
            throw new Fault(9, at);
        }
        if (f.kind == 0) {
            elements.add(i);
        }
    }

    private void walkOver(List<Integer> list, int repetition) {
        for (int p = 0; p < list.size(); p++) {
            int d = list.get(p);
            comeTo();
            if (d < 64) {
                walkElement(d, repetition);
            } else if (d < 200) {
                walkOver(lists.get(d - 100), repetition);
            } else if (d < 400) {
                int x = (d - 200) / 16;
                long n = (d - 200) % 16;
                if (n == 0) {
                    p++;
                    comeTo();
                    int[] e = entry(list.get(p));
                    Field f = give(2, e[2], e[0], e[1], repetition);
                    f.code = list.get(p);
                    settle(f);
                    n = f.value;
                }
                for (int r = 0; r < n; r++) {
                    walkOver(list.subList(p + 1, p + 1 + x), r);
                }
                p += x;
            } else if (operator(d) != NONE) {
                ops[operator(d)] = d - BASE[operator(d)];
            } else if (d == 520) {
                walkMark(repetition);
            } else {
                walkBits(d - 500, repetition);
            }
        }
    }

    private void walkElement(int code, int repetition) {
        if (ops[2] != 0) {
            Field q = give(1, ops[2], 0, 0, repetition);
            q.target = given.size() + 1;
            settle(q);
        }
        int[] e = entry(code);
        Field f = give(0, e[2] + adds(ops[0], 16), e[0] + adds(ops[1], 8), e[1] * (long) Math.pow(2, ops[3]),
                repetition);
        f.code = code;
        settle(f);
    }

    private void walkBits(int n, int repetition) {
        if (elements.size() < n) {
            throw faultHere(7);
        }
        List<Integer> stand = new ArrayList<>(elements.subList(elements.size() - n, elements.size()));
        List<Integer> with1 = new ArrayList<>();
        for (int target : stand) {
            Field f = give(3, 1, 0, 0, repetition);
            f.target = target;
            settle(f);
            if (f.value == 1) {
                with1.add(target);
            }
        }
        pointed = with1;
    }

    private void walkMark(int repetition) {
        if (pointed.isEmpty()) {
            throw faultHere(7);
        }
        int target = pointed.remove(0);
        Field t = given.get(target);
        Field f = give(4, t.width, t.scale, t.reference, repetition);
        f.code = t.code;
        f.target = target;
        settle(f);
    }

    private Source kept(int subset) {
        return (f, i) -> values[subset][i];
    }

    public int fields(int subset) {
        faultNumber = 0;
        faultPlace = NONE;
        inBounds(within(subset, 0, 7));
        return (int) faulty(() -> {
            look();
            return walk(subset, kept(subset), false).size();
        });
    }

    private List<Field> asFarAsItComes(int subset) {
        if (!within(subset, 0, 7)) {
            return new ArrayList<>();
        }
        try {
            look();
        } catch (Fault f) {
            return new ArrayList<>();
        }
        try {
            walk(subset, kept(subset), false);
        } catch (Fault f) {
            // what has been given is there
        }
        return given;
    }

    public int field(int subset, int i, int what) {
        List<Field> all = asFarAsItComes(subset);
        if (!within(i, 0, all.size() - 1) || !within(what, 0, 5)) {
            return NONE;
        }
        Field f = all.get(i);
        return new int[] {f.kind, f.code, f.width, f.scale, f.target, f.repetition}[what];
    }

    public long reference(int subset, int i) {
        List<Field> all = asFarAsItComes(subset);
        return within(i, 0, all.size() - 1) ? all.get(i).reference : 0;
    }

    public int find(int subset, int code, int where, int nth) {
        List<Integer> found = new ArrayList<>();
        List<Field> all = asFarAsItComes(subset);
        for (int i = 0; i < all.size(); i++) {
            Field f = all.get(i);
            if (f.kind == 0 && f.code == code && (where == NONE || f.repetition == where)) {
                found.add(i);
            }
        }
        return within(nth, 0, found.size() - 1) ? found.get(nth) : NONE;
    }

    // ---- written

    private static String binary(long v, int width) {
        StringBuilder s = new StringBuilder(Long.toBinaryString(v));
        while (s.length() < width) {
            s.insert(0, '0');
        }
        return width == 0 ? "" : s.toString();
    }

    public int write(int n, boolean asPacked) {
        faultNumber = 0;
        faultPlace = NONE;
        illegalUnless(within(n, 1, 8));
        return (int) faulty(() -> {
            look();
            List<List<Field>> all = new ArrayList<>();
            for (int s = 0; s < n; s++) {
                all.add(walk(s, kept(s), true));
            }
            String bits = asPacked ? packedBits(all) : plainBits(all);
            message = new ArrayList<>(List.of(asPacked ? 67 : 66, n, bits.length() / 256, bits.length() % 256));
            while (bits.length() % 8 != 0) {
                bits += "0";
            }
            for (int b = 0; b < bits.length(); b += 8) {
                message.add(Integer.parseInt(bits.substring(b, b + 8), 2));
            }
            return message.size();
        });
    }

    private static String plainBits(List<List<Field>> all) {
        StringBuilder bits = new StringBuilder();
        for (List<Field> one : all) {
            for (Field f : one) {
                bits.append(binary(f.raw(), f.width));
            }
        }
        return bits.toString();
    }

    private static boolean alike(Field a, Field b) {
        return a.kind == b.kind && a.width == b.width && a.scale == b.scale && a.reference == b.reference
                && (a.kind != 2 && a.kind != 3 || a.value == b.value);
    }

    private static String packedBits(List<List<Field>> all) {
        List<Field> first = all.get(0);
        for (int s = 0; s < all.size(); s++) {
            List<Field> other = all.get(s);
            int both = Math.min(first.size(), other.size());
            for (int i = 0; i < both; i++) {
                if (!alike(first.get(i), other.get(i))) {
                    throw new Fault(10, 100 * s + i);
                }
            }
            if (first.size() != other.size()) {
                throw new Fault(10, 100 * s + both);
            }
        }
        StringBuilder bits = new StringBuilder();
        for (int i = 0; i < first.size(); i++) {
            List<Field> across = new ArrayList<>();
            for (List<Field> one : all) {
                across.add(one.get(i));
            }
            bits.append(packedField(across));
        }
        return bits.toString();
    }

    private static String packedField(List<Field> across) {
        int width = across.get(0).width;
        long[] there = across.stream().filter(f -> !f.isMissing()).mapToLong(Field::raw).sorted().toArray();
        if (there.length == 0) {
            return binary(across.get(0).ones(), width) + "000000";
        }
        long least = there[0];
        long most = there[there.length - 1];
        if (least == most && there.length == across.size()) {
            return binary(least, width) + "000000";
        }
        int w = 1;
        while (Math.pow(2, w) - 1 <= most - least) {
            w++;
        }
        StringBuilder bits = new StringBuilder(binary(least, width) + binary(w, 6));
        for (Field f : across) {
            bits.append(f.isMissing() ? "1".repeat(w) : binary(f.raw() - least, w));
        }
        return bits.toString();
    }

    public int byteAt(int i) {
        return within(i, 0, message.size() - 1) ? message.get(i) : NONE;
    }

    // ---- read

    public int feed(int word, int n) {
        if (!within(n, 1, 4) || tape.size() + n > 1000) {
            return NONE;
        }
        for (int b = n - 1; b >= 0; b--) {
            tape.add(word >> 8 * b & 255);
        }
        return tape.size();
    }

    private String rest;

    public int read() {
        List<Integer> bytes = new ArrayList<>(tape);
        tape.clear();
        return (int) faulty(() -> {
            look();
            rest = bitsOf(bytes);
            int n = bytes.get(1);
            long[][] rows = new long[8][100];
            for (long[] row : rows) {
                Arrays.fill(row, MISSING);
            }
            if (bytes.get(0) == 66) {
                for (int s = 0; s < n; s++) {
                    int subset = s;
                    walk(s, (f, i) -> rows[subset][i] = plainValue(f, i), false);
                }
            } else {
                walk(0, (f, i) -> packedValue(f, i, rows, n), false);
            }
            if (!rest.isEmpty()) {
                throw faultHere(12);
            }
            for (int s = 0; s < 8; s++) {
                values[s] = rows[s];
            }
            return n;
        });
    }

    private static String bitsOf(List<Integer> bytes) {
        if (bytes.size() < 4 || !within(bytes.get(0), 66, 67) || !within(bytes.get(1), 1, 8)) {
            throw new Fault(11, NONE);
        }
        int count = bytes.get(2) * 256 + bytes.get(3);
        StringBuilder bits = new StringBuilder();
        for (int b : bytes.subList(4, bytes.size())) {
            bits.append(binary(b, 8));
        }
        int more = bits.length() - count;
        if (!within(more, 0, 7) || bits.substring(count).contains("1")) {
            throw new Fault(11, NONE);
        }
        return bits.substring(0, count);
    }

    private long taken(int width, int i) {
        if (rest.length() < width) {
            throw new Fault(12, subsetPlace + i);
        }
        long v = width == 0 ? 0 : Long.parseLong(rest.substring(0, width), 2);
        rest = rest.substring(width);
        return v;
    }

    private static long valueOf(Field f, long raw) {
        return f.kind != 3 && raw == f.ones() ? MISSING : raw + f.reference;
    }

    private long plainValue(Field f, int i) {
        return valueOf(f, taken(f.width, i));
    }

    private long packedValue(Field f, int i, long[][] rows, int n) {
        long least = taken(f.width, i);
        int w = (int) taken(6, i);
        if (w > 33 || (f.kind == 2 || f.kind == 3) && w != 0 || f.kind == 2 && least == f.ones()) {
            throw new Fault(12, i);
        }
        for (int s = 0; s < n; s++) {
            if (w == 0) {
                rows[s][i] = valueOf(f, least);
                continue;
            }
            long difference = taken(w, i);
            if (difference == (1L << w) - 1) {
                rows[s][i] = MISSING;
            } else if (least + difference > f.ones() - 1) {
                throw new Fault(12, i);
            } else {
                rows[s][i] = f.reference + least + difference;
            }
        }
        return rows[0][i];
    }

    // ---- the grid

    private final long[] points = new long[64];
    private final long[] packed = new long[64];
    private List<Integer> ends;
    private int codeCount = NONE;
    private int groupBits = NONE;

    public void point(int i, long v) {
        inBounds(within(i, 0, 63));
        illegalUnless(v == MISSING || within(v, -2000000000L, 2000000000L));
        points[i] = v;
    }

    public int pack(int bits) {
        illegalUnless(within(bits, 1, 31));
        long low = Long.MAX_VALUE;
        long high = Long.MIN_VALUE;
        for (long p : points) {
            if (p != MISSING) {
                low = Math.min(low, p);
                high = Math.max(high, p);
            }
        }
        if (low > high) {
            throw new IllegalStateException();
        }
        int step = 0;
        while ((high - low) / (1L << step) > (1L << bits) - 1) {
            step++;
        }
        List<Long> codes = new ArrayList<>();
        for (int row = 0; row < 8; row++) {
            for (int c = 0; c < 8; c++) {
                int i = 8 * row + (row % 2 == 1 ? 7 - c : c);
                packed[i] = MISSING;
                if (points[i] != MISSING) {
                    long code = (points[i] - low) / (1L << step);
                    codes.add(code);
                    packed[i] = low + code * (1L << step);
                }
            }
        }
        codeCount = codes.size();
        cutForward(codes, bits);
        return step;
    }

    static int costOf(List<Long> group, int bits) {
        long least = group.stream().mapToLong(c -> c).min().getAsLong();
        long most = group.stream().mapToLong(c -> c).max().getAsLong();
        int each = most == least ? 0 : Long.toBinaryString(most - least).length();
        return bits + 11 + each * group.size();
    }

    /** From the first code on, with the whole list of ends for each start of what is left, compared as the text says. */
    private void cutForward(List<Long> codes, int bits) {
        int n = codes.size();
        List<List<Integer>> best = new ArrayList<>();
        int[] cost = new int[n + 1];
        for (int end = 0; end <= n; end++) {
            List<Integer> bestHere = end == 0 ? new ArrayList<>() : null;
            for (int start = 0; start < end; start++) {
                int c = cost[start] + costOf(codes.subList(start, end), bits);
                List<Integer> cut = new ArrayList<>(best.get(start));
                cut.add(end);
                if (bestHere == null || c < cost[end] || c == cost[end] && isLongerFirst(cut, bestHere)) {
                    bestHere = cut;
                    cost[end] = c;
                }
            }
            best.add(bestHere);
        }
        ends = best.get(n);
        groupBits = cost[n];
    }

    static boolean isLongerFirst(List<Integer> cut, List<Integer> other) {
        for (int g = 0; g < Math.min(cut.size(), other.size()); g++) {
            if (!cut.get(g).equals(other.get(g))) {
                return cut.get(g) > other.get(g);
            }
        }
        return false;
    }

    public long packedAt(int i) {
        return within(i, 0, 63) ? packed[i] : MISSING;
    }

    public int group(int what) {
        if (codeCount == NONE) {
            return NONE;
        }
        return what == -1 ? codeCount : what == -2 ? groupBits : within(what, 0, ends.size() - 1) ? ends.get(what)
                : NONE;
    }
}
