import java.util.Arrays;

/**
 * Messages of observations by tables: lists of descriptors are walked over values, subsets are written as bits and
 * read again, and grids are packed.
 */
public final class ObsMessages {
    public static final int NONE = -1;
    public static final long MISSING = -9000000000000000000L;

    private static final int SUBSETS = 8;
    private static final int FIELDS = 100;
    private static final int TAPE_BYTES = 1000;

    private final Tables tables;
    private final Program program;
    private final Walk walk;
    private final Writer writer;
    private final Reader reader;
    private final Bits tape;
    private final Grid grid;
    private final long[][] values;
    private int faultNumber;
    private int faultPlace;

    public ObsMessages() {
        tables = new Tables();
        program = new Program(tables);
        walk = new Walk(tables, program);
        writer = new Writer();
        tape = new Bits(TAPE_BYTES);
        reader = new Reader(tape);
        grid = new Grid();
        values = new long[SUBSETS][FIELDS];
        for (int s = 0; s < SUBSETS; s++) {
            Arrays.fill(values[s], MISSING);
        }
        faultNumber = 0;
        faultPlace = NONE;
    }

    public void element(int version, int code, int scale, int reference, int width) throws IllegalArgumentException {
        int entry = Tables.entryOf(version, code);
        if (entry == NONE || !Tables.isEntry(scale, reference, width)) {
            throw new IllegalArgumentException("no such entry");
        }
        tables.scales[entry] = scale;
        tables.references[entry] = reference;
        tables.widths[entry] = width;
    }

    public boolean drop(int version, int code) {
        int entry = Tables.entryOf(version, code);
        if (entry == NONE || tables.widths[entry] == 0) {
            return false;
        }
        tables.widths[entry] = 0;
        return true;
    }

    public void version(int n) throws IllegalArgumentException {
        if (n < 0 || n >= Tables.VERSIONS) {
            throw new IllegalArgumentException("no such version");
        }
        tables.versionInUse = n;
    }

    public int append(int list, int descriptor) throws IllegalArgumentException, IllegalStateException {
        int row = Tables.listOf(list);
        if (row == NONE || !Descriptors.isKnown(descriptor)) {
            throw new IllegalArgumentException("no such list or descriptor");
        }
        if (tables.isFull(row)) {
            throw new IllegalStateException("no room");
        }
        return tables.extend(row, descriptor);
    }

    public void clear(int list) throws IllegalArgumentException {
        int row = Tables.listOf(list);
        if (row == NONE) {
            throw new IllegalArgumentException("no such list");
        }
        tables.sizes[row] = 0;
    }

    public int compile() throws IllegalArgumentException {
        if (!compileAnew()) {
            throw new IllegalArgumentException("the template has a fault");
        }
        return program.size;
    }

    public int fault(int what) {
        if (what == 0) {
            return faultNumber;
        }
        return what == 1 ? faultPlace : NONE;
    }

    public void put(int subset, int i, long v) throws IndexOutOfBoundsException {
        if (!isValue(subset, i)) {
            throw new IndexOutOfBoundsException("no such subset or value");
        }
        values[subset][i] = v;
    }

    public long get(int subset, int i) throws IndexOutOfBoundsException {
        if (!isValue(subset, i)) {
            throw new IndexOutOfBoundsException("no such subset or value");
        }
        return values[subset][i];
    }

    public int fields(int subset) throws IndexOutOfBoundsException, IllegalArgumentException {
        setFault(0, NONE);
        if (!isSubset(subset)) {
            throw new IndexOutOfBoundsException("no such subset");
        }
        if (!compileAnew()) {
            throw new IllegalArgumentException("the template has a fault");
        }
        walk.over(values[subset]);
        if (walk.fault != 0) {
            setFault(walk.fault, placeOf(subset, walk.place));
            throw new IllegalArgumentException("the walk has a fault");
        }
        return walk.fields.count;
    }

    public int field(int subset, int i, int what) {
        if (!walkOver(subset) || !walk.fields.has(i)) {
            return NONE;
        }
        switch (what) {
            case 0:
                return walk.fields.kinds[i];
            case 1:
                return walk.fields.codes[i];
            case 2:
                return walk.fields.widths[i];
            case 3:
                return walk.fields.scales[i];
            case 4:
                return walk.fields.targets[i];
            case 5:
                return walk.fields.repetitions[i];
            default:
                return NONE;
        }
    }

    public long reference(int subset, int i) {
        return walkOver(subset) && walk.fields.has(i) ? walk.fields.references[i] : 0L;
    }

    public int find(int subset, int code, int place, int nth) {
        if (!walkOver(subset)) {
            return NONE;
        }
        int seen = 0;
        for (int i = 0; i < walk.fields.count; i++) {
            if (walk.fields.isElementOf(i, code, place)) {
                if (seen == nth) {
                    return i;
                }
                seen++;
            }
        }
        return NONE;
    }

    public int write(int n, boolean packed) throws IllegalArgumentException {
        setFault(0, NONE);
        if (n < 1 || n > SUBSETS) {
            throw new IllegalArgumentException("n is not 1 .. 8");
        }
        if (!compileAnew() || !checkValues(n) || packed && !checkAlike(n)) {
            throw new IllegalArgumentException("a fault");
        }
        if (packed) {
            writer.takePacked(walk, values, n);
        } else {
            writer.takePlain(walk, values, n);
        }
        return writer.bits.byteCount();
    }

    public int byteAt(int i) {
        return i >= 0 && i < writer.bits.byteCount() ? writer.bits.bytes[i] : NONE;
    }

    public int feed(int word, int n) {
        if (n < 1 || n > 4 || tape.byteCount() + n > TAPE_BYTES) {
            return NONE;
        }
        tape.add(word, 8 * n);
        return tape.byteCount();
    }

    public int read() throws IllegalArgumentException {
        if (compileAnew() && openTape()) {
            if (reader.packed) {
                reader.takePacked(walk);
            } else {
                reader.takePlain(walk);
            }
            setFault(reader.fault, reader.place);
        }
        tape.empty();
        if (faultNumber != 0) {
            throw new IllegalArgumentException("a fault");
        }
        for (int s = 0; s < SUBSETS; s++) {
            System.arraycopy(reader.rows[s], 0, values[s], 0, FIELDS);
        }
        return reader.subsets;
    }

    public void point(int i, long v) throws IndexOutOfBoundsException, IllegalArgumentException {
        if (i < 0 || i >= Grid.POINTS) {
            throw new IndexOutOfBoundsException("no such point");
        }
        if (v != MISSING && (v < -Grid.FARTHEST || v > Grid.FARTHEST)) {
            throw new IllegalArgumentException("no such number");
        }
        grid.points[i] = v;
    }

    public int pack(int bits) throws IllegalArgumentException, IllegalStateException {
        if (bits < 1 || bits > Grid.MOST_BITS) {
            throw new IllegalArgumentException("bits are not 1 .. 31");
        }
        if (grid.isBare()) {
            throw new IllegalStateException("all points are MISSING");
        }
        int step = grid.takeCodes(bits);
        grid.cut(bits);
        return step;
    }

    public long packedAt(int i) {
        return i >= 0 && i < Grid.POINTS ? grid.packed[i] : MISSING;
    }

    public int group(int what) {
        if (what == NONE) {
            return grid.codeCount;
        }
        if (what == -2) {
            return grid.groupBits;
        }
        return what >= 0 && what < grid.groupCount ? grid.groupEnds[what] : NONE;
    }

    private static boolean isSubset(int subset) {
        return subset >= 0 && subset < SUBSETS;
    }

    private static boolean isValue(int subset, int i) {
        return isSubset(subset) && i >= 0 && i < FIELDS;
    }

    private static int placeOf(int subset, int field) {
        return FIELDS * subset + field;
    }

    /** How many bits a number (not below 0) has; 0 has none. */
    private static int bitLength(long number) {
        int bits = 0;
        while (bits < 63 && number >> bits != 0) {
            bits++;
        }
        return bits;
    }

    /** The greatest number of some bits, which stands for MISSING in them. */
    private static long allOnes(int bits) {
        return (1L << bits) - 1;
    }

    private void setFault(int number, int place) {
        faultNumber = number;
        faultPlace = place;
    }

    private boolean compileAnew() {
        program.build();
        setFault(program.fault, program.place);
        return program.fault == 0;
    }

    /** Walks over a subset as far as that goes, without a trace in fault(): these are mere questions. */
    private boolean walkOver(int subset) {
        if (!isSubset(subset)) {
            return false;
        }
        program.build();
        if (program.fault != 0) {
            return false;
        }
        walk.over(values[subset]);
        return true;
    }

    private boolean checkValues(int n) {
        for (int s = 0; s < n; s++) {
            walk.overChecked(values[s]);
            if (walk.fault != 0) {
                setFault(walk.fault, placeOf(s, walk.place));
                return false;
            }
        }
        return true;
    }

    /**
     * Whether all subsets have the fields of subset 0. A walk hangs on the values of COUNT and BIT alone, so the first
     * field that is otherwise is always one of these, with another value.
     */
    private boolean checkAlike(int n) {
        walk.over(values[0]);
        for (int s = 1; s < n; s++) {
            int i = walk.fields.firstOther(values[0], values[s]);
            if (i != NONE) {
                setFault(10, placeOf(s, i));
                return false;
            }
        }
        return true;
    }

    private boolean openTape() {
        if (reader.open()) {
            return true;
        }
        setFault(11, NONE);
        return false;
    }

    /** What the numbers of descriptors mean. */
    private static final class Descriptors {
        static final int ELEMENTS = 64;
        static final int SEQUENCES = 16;
        static final int OPERATORS = 4;
        static final int WIDTH = 0;
        static final int SCALE = 1;
        static final int QUALITY = 2;
        static final int SHIFT = 3;
        private static final int FIRST_SEQUENCE = 100;
        private static final int REPEATS = 200;
        private static final int FIRST_REPEAT = 216;
        private static final int LAST_REPEAT = 343;
        private static final int NO_BITS = 500;
        private static final int MOST_BITS = 16;
        private static final int THE_MARK = 520;
        private static final int[] ENDS = {400, 440, 460, 480};
        private static final int[] LASTS = {431, 455, 468, 487};

        static boolean isKnown(int d) {
            return isElement(d) || sequenceOf(d) != NONE || isRepeat(d) || operatorOf(d) != NONE || bitsOf(d) != NONE
                    || isMark(d);
        }

        static boolean isElement(int d) {
            return d >= 0 && d < ELEMENTS;
        }

        static int sequenceOf(int d) {
            return d >= FIRST_SEQUENCE && d < FIRST_SEQUENCE + SEQUENCES ? d - FIRST_SEQUENCE : NONE;
        }

        static boolean isRepeat(int d) {
            return d >= FIRST_REPEAT && d <= LAST_REPEAT;
        }

        /** How many descriptors a REPEAT repeats. */
        static int lengthOf(int repeat) {
            return (repeat - REPEATS) / 16;
        }

        /** How often a REPEAT repeats them, 0 if a COUNT says it. */
        static int timesOf(int repeat) {
            return (repeat - REPEATS) % 16;
        }

        static int operatorOf(int d) {
            for (int operator = 0; operator < OPERATORS; operator++) {
                if (d >= ENDS[operator] && d <= LASTS[operator]) {
                    return operator;
                }
            }
            return NONE;
        }

        /** An operator's k: 0 is its END. */
        static int settingOf(int d, int operator) {
            return d - ENDS[operator];
        }

        static int addedWidth(int setting) {
            return setting == 0 ? 0 : setting - 16;
        }

        static int addedScale(int setting) {
            return setting == 0 ? 0 : setting - 8;
        }

        static int bitsOf(int d) {
            return d > NO_BITS && d <= NO_BITS + MOST_BITS ? d - NO_BITS : NONE;
        }

        static boolean isMark(int d) {
            return d == THE_MARK;
        }
    }

    /** The entries of the elements, and the lists of descriptors. */
    private static final class Tables {
        static final int VERSIONS = 4;
        static final int TEMPLATE = Descriptors.SEQUENCES;
        static final int SEQUENCE_ROOM = 8;
        static final int TEMPLATE_ROOM = 24;
        static final int TEMPLATE_START = SEQUENCE_ROOM * Descriptors.SEQUENCES;
        static final int MOST_WIDTH = 32;
        static final int MOST_SCALE = 8;
        private static final int OVERLAY = VERSIONS;
        private static final int MOST_REFERENCE = 1000000000;
        private static final int ENTRIES = (VERSIONS + 1) * Descriptors.ELEMENTS;

        final int[] scales = new int[ENTRIES];
        final int[] references = new int[ENTRIES];
        /** 0 where there is no entry, as no entry has that width. */
        final int[] widths = new int[ENTRIES];
        /** The sequences' lists, and behind them the template. */
        final int[] listed = new int[TEMPLATE_START + TEMPLATE_ROOM];
        final int[] sizes = new int[Descriptors.SEQUENCES + 1];
        int versionInUse = VERSIONS - 1;

        /** Where an entry is, NONE if there is no such version or element. */
        static int entryOf(int version, int code) {
            if (version < NONE || version >= VERSIONS || !Descriptors.isElement(code)) {
                return NONE;
            }
            return entryAt(version == NONE ? OVERLAY : version, code);
        }

        static boolean isEntry(int scale, int reference, int width) {
            return isScale(scale) && isWidth(width) && reference >= -MOST_REFERENCE && reference <= MOST_REFERENCE;
        }

        static boolean isScale(int scale) {
            return scale >= -MOST_SCALE && scale <= MOST_SCALE;
        }

        static boolean isWidth(int width) {
            return width >= 1 && width <= MOST_WIDTH;
        }

        static int listOf(int list) {
            if (list == NONE) {
                return TEMPLATE;
            }
            return list >= 0 && list < Descriptors.SEQUENCES ? list : NONE;
        }

        static int startOf(int row) {
            return row * SEQUENCE_ROOM;
        }

        int endOf(int row) {
            return startOf(row) + sizes[row];
        }

        boolean isFull(int row) {
            return sizes[row] >= (row == TEMPLATE ? TEMPLATE_ROOM : SEQUENCE_ROOM);
        }

        int extend(int row, int descriptor) {
            listed[endOf(row)] = descriptor;
            sizes[row]++;
            return sizes[row];
        }

        /** Where an element's entry in force is, NONE if it has none. */
        int inForce(int code) {
            if (widths[entryAt(OVERLAY, code)] > 0) {
                return entryAt(OVERLAY, code);
            }
            for (int version = versionInUse; version >= 0; version--) {
                if (widths[entryAt(version, code)] > 0) {
                    return entryAt(version, code);
                }
            }
            return NONE;
        }

        private static int entryAt(int slot, int code) {
            return slot * Descriptors.ELEMENTS + code;
        }
    }

    /**
     * The compiled template: its descriptors in the order in which they are looked at, each sequence's behind its own
     * and what is to be repeated once, so that a walk needs no lists any more.
     */
    private static final class Program {
        private static final int MOST_DESCRIPTORS = 1000;
        private static final int MOST_WITHIN = 6;
        /** More than can be open: the template, 8 to be repeated within one another there, 6 sequences with 7 each. */
        private static final int MOST_OPEN = 64;
        /** More than are needed: each step looks at a descriptor or closes a list that one has opened. */
        private static final int MOST_STEPS = 10000;

        final int[] descriptors = new int[MOST_DESCRIPTORS];
        /** For a REPEAT: where that ends which it repeats. */
        final int[] bodyEnds = new int[MOST_DESCRIPTORS];
        int size;
        int fault;
        int place;

        private final Tables tables;
        private final int[] settings = new int[Descriptors.OPERATORS];
        private final int[] openAts = new int[MOST_OPEN];
        private final int[] openEnds = new int[MOST_OPEN];
        private final int[] openSequences = new int[MOST_OPEN];
        private final int[] openRepeats = new int[MOST_OPEN];
        private final int[] foundSettings = new int[MOST_OPEN * Descriptors.OPERATORS];
        private int open;
        private int templatePlace;

        Program(Tables tables) {
            this.tables = tables;
        }

        void build() {
            size = 0;
            fault = 0;
            place = NONE;
            open = 0;
            templatePlace = 0;
            Arrays.fill(settings, 0);
            openList(Tables.TEMPLATE_START, tables.endOf(Tables.TEMPLATE), NONE, NONE);
            for (int step = 0; step < MOST_STEPS && open > 0 && fault == 0; step++) {
                if (openAts[open - 1] < openEnds[open - 1]) {
                    lookAtNext();
                } else {
                    closeList();
                }
            }
        }

        private void fail(int number) {
            fault = number;
            place = templatePlace;
        }

        /** Opens a list: a sequence's, what the REPEAT at a number is to repeat, or (both NONE) the template. */
        private void openList(int start, int end, int sequence, int repeat) {
            if (open >= MOST_OPEN) {
                fail(2);
                return;
            }
            openAts[open] = start;
            openEnds[open] = end;
            openSequences[open] = sequence;
            openRepeats[open] = repeat;
            System.arraycopy(settings, 0, foundSettings, open * Descriptors.OPERATORS, Descriptors.OPERATORS);
            open++;
        }

        private void closeList() {
            open--;
            for (int operator = 0; operator < Descriptors.OPERATORS; operator++) {
                if (settings[operator] != foundSettings[open * Descriptors.OPERATORS + operator]) {
                    fail(4);
                    return;
                }
            }
            if (openRepeats[open] != NONE) {
                bodyEnds[openRepeats[open]] = size;
            }
        }

        private void lookAtNext() {
            int top = open - 1;
            int at = openAts[top];
            openAts[top] = at + 1;
            int d = tables.listed[at];
            if (!takeUp(at, d)) {
                return;
            }
            int operator = Descriptors.operatorOf(d);
            if (Descriptors.isElement(d)) {
                lookAtElement(d);
            } else if (Descriptors.sequenceOf(d) != NONE) {
                lookAtSequence(Descriptors.sequenceOf(d));
            } else if (Descriptors.isRepeat(d)) {
                lookAtRepeat(d, at, top);
            } else if (operator != NONE) {
                lookAtOperator(operator, Descriptors.settingOf(d, operator));
            }
        }

        /** Takes a descriptor up, unless it is one too many. */
        private boolean takeUp(int at, int d) {
            if (at >= Tables.TEMPLATE_START) {
                templatePlace = at - Tables.TEMPLATE_START;
            }
            if (size >= MOST_DESCRIPTORS) {
                fail(2);
                return false;
            }
            descriptors[size] = d;
            size++;
            return true;
        }

        private void lookAtElement(int code) {
            int entry = tables.inForce(code);
            if (entry == NONE) {
                fail(1);
                return;
            }
            int width = tables.widths[entry] + Descriptors.addedWidth(settings[Descriptors.WIDTH]);
            int scale = tables.scales[entry] + Descriptors.addedScale(settings[Descriptors.SCALE]);
            if (!Tables.isWidth(width) || !Tables.isScale(scale)) {
                fail(5);
            }
        }

        private void lookAtSequence(int sequence) {
            if (tables.sizes[sequence] == 0) {
                fail(1);
            } else if (isTooDeep(sequence)) {
                fail(2);
            } else {
                openList(Tables.startOf(sequence), tables.endOf(sequence), sequence, NONE);
            }
        }

        private boolean isTooDeep(int sequence) {
            int within = 0;
            for (int list = 0; list < open; list++) {
                if (openSequences[list] == sequence) {
                    return true;
                }
                if (openSequences[list] != NONE) {
                    within++;
                }
            }
            return within >= MOST_WITHIN;
        }

        private void lookAtRepeat(int d, int at, int top) {
            boolean counted = Descriptors.timesOf(d) == 0;
            int start = counted ? at + 2 : at + 1;
            int end = start + Descriptors.lengthOf(d);
            if (end > openEnds[top] || counted && !Descriptors.isElement(tables.listed[at + 1])) {
                fail(3);
                return;
            }
            int repeat = size - 1;
            // Operators add nothing to a COUNT, so that it has no FAULT 5.
            if (counted && takeUp(at + 1, tables.listed[at + 1]) && tables.inForce(tables.listed[at + 1]) == NONE) {
                fail(1);
            }
            if (fault == 0) {
                openAts[top] = end;
                openList(start, end, NONE, repeat);
            }
        }

        private void lookAtOperator(int operator, int setting) {
            boolean begun = settings[operator] != 0;
            boolean begins = setting != 0;
            if (begun == begins) {
                fail(4);
                return;
            }
            settings[operator] = setting;
        }
    }

    /** The fields that a walk has given. */
    private static final class Fields {
        static final int ELEMENT = 0;
        static final int QUALITY = 1;
        static final int COUNT = 2;
        static final int BIT = 3;
        static final int MARK = 4;

        final int[] kinds = new int[FIELDS];
        final int[] codes = new int[FIELDS];
        final int[] widths = new int[FIELDS];
        final int[] scales = new int[FIELDS];
        final long[] references = new long[FIELDS];
        /** The field that a QUALITY is of, or that a BIT or MARK points at. */
        final int[] targets = new int[FIELDS];
        final int[] repetitions = new int[FIELDS];
        int count;

        boolean has(int i) {
            return i >= 0 && i < count;
        }

        boolean isElementOf(int i, int code, int repetition) {
            return kinds[i] == ELEMENT && codes[i] == code && (repetition == NONE || repetitions[i] == repetition);
        }

        boolean isCountOrBit(int i) {
            return kinds[i] == COUNT || kinds[i] == BIT;
        }

        /** The first COUNT or BIT that has another value in another row, NONE if there is none. */
        int firstOther(long[] row, long[] other) {
            for (int i = 0; i < count; i++) {
                if (isCountOrBit(i) && row[i] != other[i]) {
                    return i;
                }
            }
            return NONE;
        }

        /** Bounds are compared, not the difference, which could wrap around. */
        boolean hasRaw(int i, long value) {
            if (kinds[i] == BIT || value == MISSING) {
                return true;
            }
            return value >= references[i] && value < references[i] + allOnes(widths[i]);
        }

        long rawOf(int i, long value) {
            if (value == MISSING) {
                return allOnes(widths[i]);
            }
            return value - references[i];
        }

        /** A BIT is never MISSING: all its numbers are values. */
        boolean isMissing(int i, long raw) {
            return kinds[i] != BIT && raw == allOnes(widths[i]);
        }

        long valueOf(int i, long raw) {
            return isMissing(i, raw) ? MISSING : references[i] + raw;
        }
    }

    /** The REPEATs that a walk is in, the innermost one last. */
    private static final class Loops {
        private final int[] starts = new int[Program.MOST_OPEN];
        private final int[] ends = new int[Program.MOST_OPEN];
        private final int[] times = new int[Program.MOST_OPEN];
        private final int[] done = new int[Program.MOST_OPEN];
        private int open;

        void leaveAll() {
            open = 0;
        }

        /** There is room for every REPEAT: no more can be open than lists when the template is compiled. */
        void enter(int start, int end, int often) {
            if (open < Program.MOST_OPEN) {
                starts[open] = start;
                ends[open] = end;
                times[open] = often;
                done[open] = 0;
                open++;
            }
        }

        int repetition() {
            return open == 0 ? NONE : done[open - 1];
        }

        /** Where the walk goes on that has come to a place: there, or where a REPEAT that ends there begins again. */
        int onFrom(int at) {
            while (open > 0 && at == ends[open - 1]) {
                int top = open - 1;
                done[top]++;
                if (done[top] < times[top]) {
                    return starts[top];
                }
                open--;
            }
            return at;
        }
    }

    /**
     * The walk over the compiled template. It stops at each field, and goes on when it has been told the field's value,
     * so that values can be read or looked at on the way.
     */
    private static final class Walk {
        private static final int MOST_DESCRIPTORS = 2000;
        private static final int MOST_TIMES = 30;

        final Fields fields = new Fields();
        int fault;
        int place;

        private final Tables tables;
        private final Program program;
        private final Loops loops = new Loops();
        private final int[] settings = new int[Descriptors.OPERATORS];
        private final int[] elements = new int[FIELDS];
        private int elementCount;
        private final int[] pointed = new int[Descriptors.MOST_BITS];
        private int pointedCount;
        private int nextPointed;
        private int at;
        private int come;
        /** The kind of the field that comes next, NONE if a descriptor does. */
        private int dueKind;
        private int dueCode;
        private int dueBits;
        /** Where that ends which the next COUNT counts, NONE unless its REPEAT has just come. */
        private int countedEnd;

        Walk(Tables tables, Program program) {
            this.tables = tables;
            this.program = program;
        }

        /** Walks over a row of values. */
        void over(long[] row) {
            begin();
            for (int i = 0; advance() && i < FIELDS; i++) {
                settle(row[i]);
            }
        }

        /** The same, but each value must have a raw number, too. */
        void overChecked(long[] row) {
            begin();
            for (int i = 0; advance() && i < FIELDS; i++) {
                settle(row[i]);
                if (fault == 0 && !fields.hasRaw(i, row[i])) {
                    fail(9, i);
                }
            }
        }

        void begin() {
            fields.count = 0;
            fault = 0;
            place = NONE;
            loops.leaveAll();
            Arrays.fill(settings, 0);
            elementCount = 0;
            pointedCount = 0;
            nextPointed = 0;
            at = 0;
            come = 0;
            dueKind = NONE;
            dueCode = NONE;
            dueBits = 0;
            countedEnd = NONE;
        }

        void fail(int number, int field) {
            fault = number;
            place = field;
        }

        /** Comes to the next field; false at the walk's end and at a fault (a field too many is one). */
        boolean advance() {
            int before = fields.count;
            for (int step = 0; step <= MOST_DESCRIPTORS && fault == 0 && fields.count == before; step++) {
                switch (dueKind) {
                    case Fields.QUALITY:
                        giveQuality();
                        break;
                    case Fields.ELEMENT:
                    case Fields.COUNT:
                        giveFromEntry();
                        break;
                    case Fields.BIT:
                        giveBit();
                        break;
                    case Fields.MARK:
                        giveMark();
                        break;
                    default:
                        at = loops.onFrom(at);
                        if (at >= program.size) {
                            return false;
                        }
                        comeToNext();
                }
            }
            return fault == 0 && fields.count > before;
        }

        /** Takes note of the value of the field that has come. */
        void settle(long value) {
            int i = fields.count - 1;
            if (i < 0 || !fields.isCountOrBit(i)) {
                return;
            }
            boolean isCount = fields.kinds[i] == Fields.COUNT;
            long least = isCount ? 1 : 0;
            long most = isCount ? MOST_TIMES : 1;
            if (value < least || value > most) {
                fail(6, i);
            } else if (isCount) {
                loops.enter(at, countedEnd, (int) value);
                countedEnd = NONE;
            } else if (value == 1 && pointedCount < pointed.length) {
                pointed[pointedCount] = fields.targets[i];
                pointedCount++;
            }
        }

        private void comeToNext() {
            come++;
            if (come > MOST_DESCRIPTORS) {
                fail(8, fields.count);
                return;
            }
            int d = program.descriptors[at];
            at++;
            int operator = Descriptors.operatorOf(d);
            if (Descriptors.isElement(d)) {
                comeToElement(d);
            } else if (Descriptors.isRepeat(d)) {
                comeToRepeat(Descriptors.timesOf(d), program.bodyEnds[at - 1]);
            } else if (operator != NONE) {
                settings[operator] = Descriptors.settingOf(d, operator);
            } else if (Descriptors.bitsOf(d) != NONE) {
                comeToBits(Descriptors.bitsOf(d));
            } else if (Descriptors.isMark(d)) {
                dueKind = Fields.MARK;
            }
        }

        private void comeToElement(int code) {
            dueCode = code;
            if (countedEnd != NONE) {
                dueKind = Fields.COUNT;
            } else {
                dueKind = settings[Descriptors.QUALITY] > 0 ? Fields.QUALITY : Fields.ELEMENT;
            }
        }

        private void comeToRepeat(int times, int end) {
            if (times > 0) {
                loops.enter(at, end, times);
            } else {
                countedEnd = end;
            }
        }

        private void comeToBits(int n) {
            if (elementCount < n) {
                fail(7, fields.count);
                return;
            }
            pointedCount = 0;
            nextPointed = 0;
            dueKind = Fields.BIT;
            dueBits = n;
        }

        private void giveQuality() {
            dueKind = Fields.ELEMENT;
            give(Fields.QUALITY, NONE, settings[Descriptors.QUALITY], 0, 0L, fields.count + 1);
        }

        private void giveFromEntry() {
            int kind = dueKind;
            dueKind = NONE;
            int entry = tables.inForce(dueCode);
            if (entry == NONE) {
                return;
            }
            int width = tables.widths[entry];
            int scale = tables.scales[entry];
            long reference = tables.references[entry];
            if (kind == Fields.ELEMENT) {
                width += Descriptors.addedWidth(settings[Descriptors.WIDTH]);
                scale += Descriptors.addedScale(settings[Descriptors.SCALE]);
                reference *= 1L << settings[Descriptors.SHIFT];
            }
            give(kind, dueCode, width, scale, reference, NONE);
        }

        private void giveBit() {
            int target = elements[elementCount - dueBits];
            dueBits--;
            dueKind = dueBits > 0 ? Fields.BIT : NONE;
            give(Fields.BIT, NONE, 1, 0, 0L, target);
        }

        private void giveMark() {
            dueKind = NONE;
            if (nextPointed >= pointedCount) {
                fail(7, fields.count);
                return;
            }
            int target = pointed[nextPointed];
            nextPointed++;
            give(Fields.MARK, fields.codes[target], fields.widths[target], fields.scales[target],
                    fields.references[target], target);
        }

        private void give(int kind, int code, int width, int scale, long reference, int target) {
            int i = fields.count;
            if (i >= FIELDS) {
                fail(8, i);
                return;
            }
            fields.kinds[i] = kind;
            fields.codes[i] = code;
            fields.widths[i] = width;
            fields.scales[i] = scale;
            fields.references[i] = reference;
            fields.targets[i] = target;
            fields.repetitions[i] = loops.repetition();
            fields.count++;
            if (kind == Fields.ELEMENT) {
                elements[elementCount] = i;
                elementCount++;
            }
        }
    }

    /** Bytes to which bits come one behind another, the highest of each byte first. */
    private static final class Bits {
        final int[] bytes;
        int length;

        Bits(int byteRoom) {
            bytes = new int[byteRoom];
        }

        void empty() {
            Arrays.fill(bytes, 0);
            length = 0;
        }

        int byteCount() {
            return (length + 7) / 8;
        }

        void add(long number, int width) {
            for (int bit = width - 1; bit >= 0 && length / 8 < bytes.length; bit--) {
                if ((number >> bit & 1) != 0) {
                    bytes[length / 8] |= 128 >> length % 8;
                }
                length++;
            }
        }

        /** The number of some bits from a place on; bits behind the end count as 0. */
        long numberAt(int start, int width) {
            long number = 0;
            for (int i = start; i < start + width; i++) {
                number = number << 1 | bitAt(i);
            }
            return number;
        }

        private int bitAt(int i) {
            return i >= 0 && i < length ? bytes[i / 8] >> 7 - i % 8 & 1 : 0;
        }
    }

    /** The form of a message. */
    private static final class Form {
        static final int PLAIN = 66;
        static final int PACKED = 67;
        static final int HEAD_BYTES = 4;
        static final int HEAD_BITS = 8 * HEAD_BYTES;
        static final int SPREAD_BITS = 6;
        static final int MOST_SPREAD = 33;
        /** Every field PACKED in 32 bits, for each subset as many. */
        static final int MOST_BYTES = HEAD_BYTES
                + (FIELDS * (Tables.MOST_WIDTH + SPREAD_BITS + SUBSETS * Tables.MOST_WIDTH) + 7) / 8;
    }

    /** Writes subsets whose walks have no fault. */
    private static final class Writer {
        final Bits bits = new Bits(Form.MOST_BYTES);

        void takePlain(Walk walk, long[][] rows, int n) {
            begin(Form.PLAIN, n);
            for (int s = 0; s < n; s++) {
                walk.over(rows[s]);
                for (int i = 0; i < walk.fields.count; i++) {
                    bits.add(walk.fields.rawOf(i, rows[s][i]), walk.fields.widths[i]);
                }
            }
            end();
        }

        void takePacked(Walk walk, long[][] rows, int n) {
            begin(Form.PACKED, n);
            walk.over(rows[0]);
            for (int i = 0; i < walk.fields.count; i++) {
                addPacked(walk.fields, i, rows, n);
            }
            end();
        }

        private void begin(int form, int n) {
            bits.empty();
            bits.add(form, 8);
            bits.add(n, 8);
            bits.add(0, 16);
        }

        private void end() {
            int count = bits.length - Form.HEAD_BITS;
            bits.bytes[2] = count / 256;
            bits.bytes[3] = count % 256;
        }

        private void addPacked(Fields fields, int i, long[][] rows, int n) {
            long least = allOnes(fields.widths[i]);
            long greatest = 0;
            boolean anyMissing = false;
            for (int s = 0; s < n; s++) {
                long raw = fields.rawOf(i, rows[s][i]);
                if (fields.isMissing(i, raw)) {
                    anyMissing = true;
                } else {
                    least = Math.min(least, raw);
                    greatest = Math.max(greatest, raw);
                }
            }
            int spread = spreadOf(greatest - least, anyMissing);
            bits.add(least, fields.widths[i]);
            bits.add(spread, Form.SPREAD_BITS);
            for (int s = 0; s < n && spread > 0; s++) {
                long raw = fields.rawOf(i, rows[s][i]);
                bits.add(fields.isMissing(i, raw) ? allOnes(spread) : raw - least, spread);
            }
        }

        /** W for the greatest difference, which is below 0 if all are MISSING. */
        private static int spreadOf(long difference, boolean anyMissing) {
            if (difference < 0 || difference == 0 && !anyMissing) {
                return 0;
            }
            return bitLength(difference + 1);
        }
    }

    /** Reads the tape into rows of its own, so that all values stay if there is a fault. */
    private static final class Reader {
        final long[][] rows = new long[SUBSETS][FIELDS];
        int subsets;
        boolean packed;
        int fault;
        int place;

        private final Bits tape;
        private int at;
        private int end;

        Reader(Bits tape) {
            this.tape = tape;
        }

        /** Whether the tape has the form of a message. */
        boolean open() {
            fault = 0;
            place = NONE;
            if (tape.byteCount() < Form.HEAD_BYTES) {
                return false;
            }
            int form = tape.bytes[0];
            subsets = tape.bytes[1];
            packed = form == Form.PACKED;
            at = Form.HEAD_BITS;
            end = at + 256 * tape.bytes[2] + tape.bytes[3];
            for (int s = 0; s < SUBSETS; s++) {
                Arrays.fill(rows[s], MISSING);
            }
            return (packed || form == Form.PLAIN) && subsets >= 1 && subsets <= SUBSETS
                    && tape.byteCount() == (end + 7) / 8 && tape.numberAt(end, tape.length - end) == 0;
        }

        void takePlain(Walk walk) {
            for (int s = 0; s < subsets && fault == 0; s++) {
                walk.begin();
                for (int i = 0; walk.advance() && i < FIELDS; i++) {
                    if (takePlainValue(walk.fields, i, rows[s])) {
                        walk.settle(rows[s][i]);
                    } else {
                        walk.fail(12, i);
                    }
                }
                endWalk(walk, s, s == subsets - 1);
            }
        }

        void takePacked(Walk walk) {
            walk.begin();
            for (int i = 0; walk.advance() && i < FIELDS; i++) {
                if (takePackedValues(walk.fields, i)) {
                    walk.settle(rows[0][i]);
                } else {
                    walk.fail(12, i);
                }
            }
            endWalk(walk, 0, true);
        }

        private void endWalk(Walk walk, int subset, boolean isLast) {
            if (walk.fault == 0 && isLast && at < end) {
                walk.fail(12, walk.fields.count);
            }
            if (walk.fault != 0) {
                fault = walk.fault;
                place = placeOf(subset, walk.place);
            }
        }

        private long take(int width) {
            long number = tape.numberAt(at, width);
            at += width;
            return number;
        }

        private boolean takePlainValue(Fields fields, int i, long[] row) {
            int width = fields.widths[i];
            if (end - at < width) {
                return false;
            }
            row[i] = fields.valueOf(i, take(width));
            return true;
        }

        private boolean takePackedValues(Fields fields, int i) {
            int width = fields.widths[i];
            if (end - at < width + Form.SPREAD_BITS) {
                return false;
            }
            long least = take(width);
            int spread = (int) take(Form.SPREAD_BITS);
            if (spread > Form.MOST_SPREAD || end - at < subsets * spread) {
                return false;
            }
            if (spread == 0) {
                return takeOneForAll(fields, i, least);
            }
            return !fields.isCountOrBit(i) && takeDifferences(fields, i, least, spread);
        }

        private boolean takeOneForAll(Fields fields, int i, long raw) {
            for (int s = 0; s < subsets; s++) {
                rows[s][i] = fields.valueOf(i, raw);
            }
            return fields.kinds[i] != Fields.COUNT || !fields.isMissing(i, raw);
        }

        private boolean takeDifferences(Fields fields, int i, long least, int spread) {
            for (int s = 0; s < subsets; s++) {
                long difference = take(spread);
                boolean isMissing = difference == allOnes(spread);
                if (!isMissing && least + difference >= allOnes(fields.widths[i])) {
                    return false;
                }
                rows[s][i] = isMissing ? MISSING : fields.references[i] + least + difference;
            }
            return true;
        }
    }

    /** The grid, and what came of it when it was packed latest. */
    private static final class Grid {
        static final int POINTS = 64;
        static final int MOST_BITS = 31;
        static final long FARTHEST = 2000000000L;
        private static final int SIDE = 8;
        private static final int GROUP_BITS = 11;
        private static final int ABOVE_ALL_COSTS = 1000000;

        final long[] points = new long[POINTS];
        final long[] packed = new long[POINTS];
        final int[] groupEnds = new int[POINTS];
        int groupCount;
        int groupBits = NONE;
        int codeCount = NONE;

        private final long[] codes = new long[POINTS];
        private final int[] cheapest = new int[POINTS + 1];
        private final int[] firstEnds = new int[POINTS + 1];

        Grid() {
            Arrays.fill(points, MISSING);
            Arrays.fill(packed, MISSING);
        }

        boolean isBare() {
            for (int i = 0; i < POINTS; i++) {
                if (points[i] != MISSING) {
                    return false;
                }
            }
            return true;
        }

        /** Packs the points: STEP. */
        int takeCodes(int bits) {
            long low = FARTHEST;
            long high = -FARTHEST;
            for (int i = 0; i < POINTS; i++) {
                if (points[i] != MISSING) {
                    low = Math.min(low, points[i]);
                    high = Math.max(high, points[i]);
                }
            }
            int step = Math.max(0, bitLength(high - low) - bits);
            codeCount = 0;
            for (int n = 0; n < POINTS; n++) {
                takeCode(inOrder(n), low, step);
            }
            return step;
        }

        private void takeCode(int i, long low, int step) {
            packed[i] = MISSING;
            if (points[i] != MISSING) {
                codes[codeCount] = points[i] - low >> step;
                packed[i] = low + (codes[codeCount] << step);
                codeCount++;
            }
        }

        private static int inOrder(int n) {
            int row = n / SIDE;
            int column = row % 2 == 0 ? n % SIDE : SIDE - 1 - n % SIDE;
            return SIDE * row + column;
        }

        /** Cuts the codes into the cheapest groups: from the last code on, what lies behind a group is cut already. */
        void cut(int bits) {
            cheapest[codeCount] = 0;
            for (int start = codeCount - 1; start >= 0; start--) {
                cutFrom(start, bits + GROUP_BITS);
            }
            groupBits = cheapest[0];
            groupCount = 0;
            for (int start = 0; start < codeCount && groupCount < POINTS; start = firstEnds[start]) {
                groupEnds[groupCount] = firstEnds[start];
                groupCount++;
            }
        }

        /** Longer groups come later, so of those that cost the same the longest is kept. */
        private void cutFrom(int start, int price) {
            long least = codes[start];
            long greatest = codes[start];
            cheapest[start] = ABOVE_ALL_COSTS;
            for (int end = start + 1; end <= codeCount; end++) {
                least = Math.min(least, codes[end - 1]);
                greatest = Math.max(greatest, codes[end - 1]);
                int cost = price + (end - start) * bitLength(greatest - least) + cheapest[end];
                if (cost <= cheapest[start]) {
                    cheapest[start] = cost;
                    firstEnds[start] = end;
                }
            }
        }
    }
}
