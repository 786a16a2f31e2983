import java.util.Arrays;

/**
 * Four vectors of bits, looked at in blocks of fifteen by class and place among the class.
 * The numbered promises of the document say what each call answers; no call ever throws.
 */
public final class ClassBits {
    public static final int NONE = -1000000, BAD = -1000001, STATE = -1000002, FULL = -1000003;

    private static final int FINDINGS = -1000010;
    private static final int NULL_FOUND = 1;
    private static final int PLACE_FOUND = 2;
    private static final int KIND_FOUND = 3;
    private static final int SIZE_FOUND = 4;
    private static final int STORE_FOUND = 5;
    private static final int OVER_FOUND = 6;

    private static final int FAULT_PLACES = -1000100;
    private static final int FAULT_STANDS_WRONG = 1;
    private static final int FAULT_NUMBER = 2;
    private static final int FAULT_RUNS = 3;
    private static final int FAULT_BITS = 4;

    private static final int ROWS = 8;
    private static final int MOST_ITEMS = 40;
    private static final int BYTES = 0;
    private static final int SHORTS = 1;
    private static final int INTS = 2;

    private static final int VECTORS = 4;
    private static final int MOST_BITS = 480;
    private static final int BLOCK = 15;
    private static final int MOST_BLOCKS = 32;
    private static final int FULL_MASK = 32767;
    private static final int BLOCKS_AN_ENTRY = 4;
    private static final int CLASS_BITS = 4;
    private static final int ENTRY_BITS = 18;
    private static final int WORDS = 7;
    private static final int WORD_BITS = 64;

    private static final int MOST_ACTS = 12;
    private static final int IMAGES = 2;
    private static final int TAPE = 60;
    private static final int MOST_RUNS = 12;
    private static final int MOST_TRACED = 16;

    private static final int MOST_DRAWS = 200;
    private static final int MOST_SEED = 999999;
    private static final long DRAW_FACTOR = 16807L;
    private static final long DRAW_MODULUS = 2147483647L;

    private static final int RUN = 0;
    private static final int ZEROS = 1;
    private static final int ONES = 2;
    private static final int THIRDS = 3;
    private static final int ALTERNATE = 4;
    private static final int BURSTS = 5;

    /** How many of n places can be chosen as k, at 16 * n + k. */
    private static final int[] CHOICES = {
        1, 0, 0, 0, 0, 0, 0, 0, 0, 0, 0, 0, 0, 0, 0, 0,
        1, 1, 0, 0, 0, 0, 0, 0, 0, 0, 0, 0, 0, 0, 0, 0,
        1, 2, 1, 0, 0, 0, 0, 0, 0, 0, 0, 0, 0, 0, 0, 0,
        1, 3, 3, 1, 0, 0, 0, 0, 0, 0, 0, 0, 0, 0, 0, 0,
        1, 4, 6, 4, 1, 0, 0, 0, 0, 0, 0, 0, 0, 0, 0, 0,
        1, 5, 10, 10, 5, 1, 0, 0, 0, 0, 0, 0, 0, 0, 0, 0,
        1, 6, 15, 20, 15, 6, 1, 0, 0, 0, 0, 0, 0, 0, 0, 0,
        1, 7, 21, 35, 35, 21, 7, 1, 0, 0, 0, 0, 0, 0, 0, 0,
        1, 8, 28, 56, 70, 56, 28, 8, 1, 0, 0, 0, 0, 0, 0, 0,
        1, 9, 36, 84, 126, 126, 84, 36, 9, 1, 0, 0, 0, 0, 0, 0,
        1, 10, 45, 120, 210, 252, 210, 120, 45, 10, 1, 0, 0, 0, 0, 0,
        1, 11, 55, 165, 330, 462, 462, 330, 165, 55, 11, 1, 0, 0, 0, 0,
        1, 12, 66, 220, 495, 792, 924, 792, 495, 220, 66, 12, 1, 0, 0, 0,
        1, 13, 78, 286, 715, 1287, 1716, 1716, 1287, 715, 286, 78, 13, 1, 0, 0,
        1, 14, 91, 364, 1001, 2002, 3003, 3432, 3003, 2002, 1001, 364, 91, 14, 1, 0,
        1, 15, 105, 455, 1365, 3003, 5005, 6435, 6435, 5005, 3003, 1365, 455, 105, 15, 1,
    };

    /** How many bits an offset takes, by the class of its block. */
    private static final int[] WIDTHS = {0, 4, 7, 9, 11, 12, 13, 13, 13, 13, 12, 11, 9, 7, 4, 0};

    private final Row[] rows = new Row[ROWS];
    private final BitVector[] vectors = new BitVector[VECTORS];
    private final BitVector[] images = new BitVector[IMAGES * VECTORS];
    private final boolean[] imageKept = new boolean[IMAGES];
    private final BitVector scratch = new BitVector();
    private final History history = new History();
    private final TextReader reader = new TextReader();
    private final Run[] runs = new Run[MOST_RUNS];
    private final Trace asked = new Trace();
    private int runCount;
    private int latestFault;
    private int latestFinding;

    public ClassBits() {
        for (int i = 0; i < ROWS; i++) {
            rows[i] = new Row();
        }
        for (int i = 0; i < VECTORS; i++) {
            vectors[i] = new BitVector();
        }
        for (int i = 0; i < IMAGES * VECTORS; i++) {
            images[i] = new BitVector();
        }
    }

    // ---- rows

    public int row(int row, int lane, int n) {
        if (!isRow(row) || lane < BYTES || lane > INTS || n > MOST_ITEMS) {
            return BAD;
        }
        if (n < 0) {
            return found(SIZE_FOUND);
        }
        rows[row].begin(lane, n);
        return fine(n);
    }

    public int set(int row, int i, int v) {
        if (!isRow(row)) {
            return BAD;
        }
        Row target = rows[row];
        if (target.missing) {
            return found(NULL_FOUND);
        }
        if (i < 0 || i >= target.length) {
            return found(PLACE_FOUND);
        }
        target.store(i, v);
        return fine(target.items[i]);
    }

    public int copy(int a, int i, int b, int j, int n) {
        if (!isRow(a) || !isRow(b)) {
            return BAD;
        }
        Row from = rows[a];
        Row to = rows[b];
        if (from.missing || to.missing) {
            return found(NULL_FOUND);
        }
        if (from.lane != to.lane) {
            return found(STORE_FOUND);
        }
        if (!from.hasPart(i, n) || !to.hasPart(j, n)) {
            return found(PLACE_FOUND);
        }
        System.arraycopy(from.items, i, to.items, j, n);
        return fine(n);
    }

    public int drop(int row) {
        if (!isRow(row)) {
            return BAD;
        }
        if (rows[row].missing) {
            return found(NULL_FOUND);
        }
        rows[row].missing = true;
        return fine(rows[row].length);
    }

    // ---- vectors, acts

    public int feed(int letter) {
        if (letter < 0 || letter > 255) {
            return BAD;
        }
        if (!reader.hasRoom()) {
            return FULL;
        }
        return reader.append(letter);
    }

    public int load(int vector) {
        if (!isVector(vector)) {
            return BAD;
        }
        int fault = reader.readTape();
        reader.emptyTape();
        if (fault != 0) {
            latestFault = fault;
            return FAULT_PLACES - reader.place;
        }
        takeOverRuns();
        BitVector target = vectorToChange(vector);
        target.clearTo(0);
        for (int i = 0; i < runCount; i++) {
            target.appendRun(runs[i]);
        }
        return target.length;
    }

    public int fault() {
        return latestFault;
    }

    public int put(int vector, int i, int v) {
        if (!isVector(vector) || !isValue(v) || i < 0 || i >= vectors[vector].length) {
            return BAD;
        }
        BitVector target = vectorToChange(vector);
        int before = target.bitAt(i);
        target.write(i, v);
        return before;
    }

    public int add(int vector, int v, int n) {
        if (!isVector(vector) || !isValue(v) || n < 1 || n > MOST_BITS) {
            return BAD;
        }
        if (vectors[vector].length + n > MOST_BITS) {
            return FULL;
        }
        BitVector target = vectorToChange(vector);
        for (int i = 0; i < n; i++) {
            target.append(v);
        }
        return target.length;
    }

    public int cut(int vector, int n) {
        if (!isVector(vector) || n < 0 || n > vectors[vector].length) {
            return BAD;
        }
        BitVector target = vectorToChange(vector);
        int before = target.length;
        target.shorten(n);
        return before;
    }

    public int join(int how, int a, int b, int c) {
        if (how < 0 || how > 3 || !isVector(a) || !isVector(b) || !isVector(c)) {
            return BAD;
        }
        BitVector target = vectorToChange(c);
        target.becomeJoined(how, vectors[a], vectors[b]);
        return target.countOnes();
    }

    public int turn(int vector) {
        if (!isVector(vector)) {
            return BAD;
        }
        BitVector target = vectorToChange(vector);
        target.invert();
        return target.countOnes();
    }

    public int take(int vector, int n, int row, int many) {
        if (!isVector(vector) || !isRow(row) || n > MOST_BITS || many > MOST_ITEMS) {
            return BAD;
        }
        if (n < 0) {
            return found(SIZE_FOUND);
        }
        Row source = rows[row];
        if (source.missing) {
            return found(NULL_FOUND);
        }
        if (!source.hasPart(0, many) || !source.tellsPlaces(many, n)) {
            return found(PLACE_FOUND);
        }
        BitVector target = vectorToChange(vector);
        target.clearTo(n);
        for (int i = 0; i < many; i++) {
            target.write(source.items[i], 1);
        }
        return fine(target.countOnes());
    }

    public int undo() {
        if (history.held == 0) {
            return STATE;
        }
        history.giveBack(vectors);
        return history.held;
    }

    // ---- what it is

    public int bits(int vector) {
        return isVector(vector) ? vectors[vector].length : BAD;
    }

    public int get(int vector, int i) {
        if (!isVector(vector) || i < 0 || i >= vectors[vector].length) {
            return BAD;
        }
        return vectors[vector].bitAt(i);
    }

    public int ones(int vector) {
        return isVector(vector) ? vectors[vector].countOnes() : BAD;
    }

    public int block(int vector, int block, int what) {
        if (!isVector(vector) || block < 0 || block >= vectors[vector].blockCount()) {
            return BAD;
        }
        BitVector target = vectors[vector];
        switch (what) {
            case 0:
                return target.classOf(block);
            case 1:
                return offsetOf(target.masks[block]);
            case 2:
                return WIDTHS[target.classOf(block)];
            case 3:
                return target.masks[block];
            case 4:
                return target.beginOf(block);
            default:
                return BAD;
        }
    }

    public int entry(int vector, int entry, int what) {
        if (!isVector(vector) || entry < 0 || entry >= vectors[vector].entryCount()) {
            return BAD;
        }
        int block = BLOCKS_AN_ENTRY * entry;
        switch (what) {
            case 0:
                return vectors[vector].onesAhead(BLOCK * block);
            case 1:
                return vectors[vector].beginOf(block);
            default:
                return BAD;
        }
    }

    public int size(int vector, int what) {
        if (!isVector(vector)) {
            return BAD;
        }
        BitVector target = vectors[vector];
        int classes = CLASS_BITS * target.blockCount();
        int directory = ENTRY_BITS * target.entryCount();
        switch (what) {
            case 0:
                return target.payloadBits();
            case 1:
                return classes;
            case 2:
                return directory;
            case 3:
                return target.payloadBits() + classes + directory;
            case 4:
                return BLOCK * target.blockCount();
            default:
                return BAD;
        }
    }

    public long payload(int vector, int k) {
        if (!isVector(vector) || k < 0 || k >= WORDS) {
            return BAD;
        }
        return vectors[vector].payloadWord(WORD_BITS * k);
    }

    // ---- ranks

    public int choose(int n, int k) {
        if (n < 0 || n > BLOCK || k < 0 || k > BLOCK) {
            return BAD;
        }
        return choices(n, k);
    }

    public int offset(int mask) {
        return mask < 0 || mask > FULL_MASK ? BAD : offsetOf(mask);
    }

    public int mask(int sort, int offset) {
        if (sort < 0 || sort > BLOCK || offset < 0 || offset >= choices(BLOCK, sort)) {
            return BAD;
        }
        return maskOf(sort, offset);
    }

    public int rank(int vector, int place, int v) {
        if (!isPlaceOrEnd(vector, place) || !isValue(v)) {
            return BAD;
        }
        int ones = vectors[vector].onesAhead(place);
        return v == 1 ? ones : place - ones;
    }

    public int select(int vector, int k, int v) {
        if (!isVector(vector) || k < 0 || !isValue(v)) {
            return BAD;
        }
        BitVector target = vectors[vector];
        int ahead = 0;
        for (int i = 0; i < target.length; i++) {
            if (target.bitAt(i) == v) {
                if (ahead == k) {
                    return i;
                }
                ahead++;
            }
        }
        return NONE;
    }

    public int next(int vector, int place, int v) {
        if (!isPlaceOrEnd(vector, place) || !isValue(v)) {
            return BAD;
        }
        BitVector target = vectors[vector];
        for (int i = place; i < target.length; i++) {
            if (target.bitAt(i) == v) {
                return i;
            }
        }
        return NONE;
    }

    public int last(int vector, int place, int v) {
        if (!isPlaceOrEnd(vector, place) || !isValue(v)) {
            return BAD;
        }
        BitVector target = vectors[vector];
        for (int i = place - 1; i >= 0; i--) {
            if (target.bitAt(i) == v) {
                return i;
            }
        }
        return NONE;
    }

    public int stretches(int vector) {
        if (!isVector(vector)) {
            return BAD;
        }
        BitVector target = vectors[vector];
        int begun = 0;
        for (int i = 0; i < target.length; i++) {
            if (i == 0 || target.bitAt(i) != target.bitAt(i - 1)) {
                begun++;
            }
        }
        return begun;
    }

    public int longest(int vector, int v, int what) {
        if (!isVector(vector) || !isValue(v) || what < 0 || what > 1) {
            return BAD;
        }
        BitVector target = vectors[vector];
        int best = 0;
        int bestPlace = NONE;
        int current = 0;
        for (int i = 0; i < target.length; i++) {
            current = target.bitAt(i) == v ? current + 1 : 0;
            if (current > best) {
                best = current;
                bestPlace = i + 1 - current;
            }
        }
        return what == 0 ? best : bestPlace;
    }

    public int alike(int a, int b, int what) {
        if (!isVector(a) || !isVector(b) || what < 0 || what > 1) {
            return BAD;
        }
        scratch.becomeJoined(0, vectors[a], vectors[b]);
        int both = scratch.countOnes();
        scratch.becomeJoined(1, vectors[a], vectors[b]);
        int any = scratch.countOnes();
        if (both == 0) {
            return what;
        }
        int divisor = commonDivisor(any, both);
        return what == 0 ? both / divisor : any / divisor;
    }

    public int weight(int vector, int w) {
        if (!isVector(vector)) {
            return BAD;
        }
        BitVector target = vectors[vector];
        long sum = 0;
        for (int i = 0; i < target.length; i++) {
            if (target.bitAt(i) == 1) {
                long product = (i + 1L) * w;
                sum += product;
                if (!isInt(product) || !isInt(sum)) {
                    return found(OVER_FOUND);
                }
            }
        }
        return fine((int) sum);
    }

    public int tell(int vector, int k, int row, int i) {
        if (!isVector(vector) || k < 0 || !isRow(row)) {
            return BAD;
        }
        Row target = rows[row];
        if (target.missing) {
            return found(NULL_FOUND);
        }
        if (i < 0 || i > target.length) {
            return found(PLACE_FOUND);
        }
        BitVector source = vectors[vector];
        int passed = 0;
        int told = 0;
        for (int place = 0; place < source.length && i + told < target.length; place++) {
            if (source.bitAt(place) == 1) {
                if (passed < k) {
                    passed++;
                } else {
                    target.store(i + told, place);
                    told++;
                }
            }
        }
        return fine(told);
    }

    public int drawn(int vector, int n, int seed, int what) {
        if (!isVector(vector) || n < 0 || n > MOST_DRAWS || seed < 1 || seed > MOST_SEED
                || what < 0 || what > 1) {
            return BAD;
        }
        scratch.copyFrom(vectors[vector]);
        long x = seed;
        for (int i = 0; i < n && scratch.length > 0; i++) {
            x = x * DRAW_FACTOR % DRAW_MODULUS;
            int place = (int) (x % scratch.length);
            scratch.write(place, 1 - scratch.bitAt(place));
        }
        return what == 0 ? scratch.countOnes() : scratch.payloadBits();
    }

    public int image(int k) {
        if (k < 0 || k >= IMAGES) {
            return BAD;
        }
        for (int i = 0; i < VECTORS; i++) {
            images[VECTORS * k + i].copyFrom(vectors[i]);
        }
        imageKept[k] = true;
        return onesOfAll();
    }

    public int restore(int k) {
        if (k < 0 || k >= IMAGES) {
            return BAD;
        }
        if (!imageKept[k]) {
            return STATE;
        }
        for (int i = 0; i < VECTORS; i++) {
            vectors[i].copyFrom(images[VECTORS * k + i]);
        }
        history.forgetAll();
        return onesOfAll();
    }

    // ---- asked

    public int kind(int run) {
        return isRun(run) ? runs[run].kindNumber() : BAD;
    }

    public int as(int run, int kind) {
        if (!isRun(run) || kind < RUN || kind > BURSTS) {
            return BAD;
        }
        if (!isOfKind(runs[run], kind)) {
            return found(KIND_FOUND);
        }
        return fine(runs[run].number);
    }

    public int ask(int run, int what) {
        if (!isRun(run) || what < 0 || what > 1) {
            return BAD;
        }
        asked.held = 0;
        return what == 0 ? runs[run].tellSize(asked) : runs[run].tellMark(asked);
    }

    public int trace(int i) {
        return i < 0 || i >= asked.held ? NONE : asked.numbers[i];
    }

    public int count(int what) {
        switch (what) {
            case 0:
                return rowsThatAreThere();
            case 1:
                return runCount;
            case 2:
                return bitsOfAll();
            case 3:
                return onesOfAll();
            case 4:
                return history.held;
            case 5:
                return reader.tapeLength;
            default:
                return BAD;
        }
    }

    public int status() {
        return latestFinding;
    }

    // ---- what the calls share

    private static boolean isRow(int row) {
        return row >= 0 && row < ROWS;
    }

    private static boolean isVector(int vector) {
        return vector >= 0 && vector < VECTORS;
    }

    private static boolean isValue(int v) {
        return v == 0 || v == 1;
    }

    private static boolean isInt(long number) {
        return number == (int) number;
    }

    private boolean isPlaceOrEnd(int vector, int place) {
        return isVector(vector) && place >= 0 && place <= vectors[vector].length;
    }

    private boolean isRun(int run) {
        return run >= 0 && run < runCount && runs[run] != null;
    }

    private int found(int finding) {
        latestFinding = finding;
        return FINDINGS - finding;
    }

    private int fine(int answer) {
        latestFinding = 0;
        return answer;
    }

    /** Every act goes through here once nothing refuses it, so that it can be undone. */
    private BitVector vectorToChange(int vector) {
        history.keep(vector, vectors[vector]);
        return vectors[vector];
    }

    private void takeOverRuns() {
        runCount = reader.runCount;
        for (int i = 0; i < MOST_RUNS; i++) {
            runs[i] = i < runCount ? newRun(reader.kinds[i], i, reader.lengths[i]) : null;
        }
    }

    private int rowsThatAreThere() {
        int there = 0;
        for (int i = 0; i < ROWS; i++) {
            if (!rows[i].missing) {
                there++;
            }
        }
        return there;
    }

    private int bitsOfAll() {
        int sum = 0;
        for (int i = 0; i < VECTORS; i++) {
            sum += vectors[i].length;
        }
        return sum;
    }

    private int onesOfAll() {
        int sum = 0;
        for (int i = 0; i < VECTORS; i++) {
            sum += vectors[i].countOnes();
        }
        return sum;
    }

    private static int choices(int n, int k) {
        return CHOICES[16 * n + k];
    }

    /**
     * Each number below the mask, with as many ones, is like it above some one of the mask and has
     * a zero there: its ones that are left, this one and those below, lie at lower places.
     */
    private static int offsetOf(int mask) {
        int offset = 0;
        int ones = 0;
        for (int place = 0; place < BLOCK; place++) {
            if ((mask >> place & 1) == 1) {
                ones++;
                offset += choices(place, ones);
            }
        }
        return offset;
    }

    private static int maskOf(int sort, int offset) {
        int mask = 0;
        int ones = sort;
        int rest = offset;
        for (int place = BLOCK - 1; place >= 0; place--) {
            if (ones > 0 && rest >= choices(place, ones)) {
                rest -= choices(place, ones);
                ones--;
                mask |= 1 << place;
            }
        }
        return mask;
    }

    /** The mask of a block whose first places, at most as many as it has, are ones. */
    private static int firstPlaces(int many) {
        return (1 << Math.max(0, Math.min(many, BLOCK))) - 1;
    }

    /** Both numbers are 1 to 480, so that the steps stay far below the bound. */
    private static int commonDivisor(int a, int b) {
        int divisor = a;
        int rest = b;
        for (int step = 0; step < MOST_BITS && rest != 0; step++) {
            int next = divisor % rest;
            divisor = rest;
            rest = next;
        }
        return Math.max(1, divisor);
    }

    private static Run newRun(int kind, int number, int length) {
        switch (kind) {
            case ONES:
                return new OnesRun(number, length);
            case THIRDS:
                return new ThirdsRun(number, length);
            case ALTERNATE:
                return new AlternateRun(number, length);
            case BURSTS:
                return new BurstsRun(number, length);
            default:
                return new ZerosRun(number, length);
        }
    }

    private static boolean isOfKind(Run run, int kind) {
        switch (kind) {
            case ZEROS:
                return run instanceof ZerosRun;
            case ONES:
                return run instanceof OnesRun;
            case THIRDS:
                return run instanceof ThirdsRun;
            case ALTERNATE:
                return run instanceof AlternateRun;
            case BURSTS:
                return run instanceof BurstsRun;
            default:
                return kind == RUN;
        }
    }

    /** A row keeps its items when it is missing: begin() clears them. */
    private static final class Row {
        final int[] items = new int[MOST_ITEMS];
        boolean missing = true;
        int lane;
        int length;

        void begin(int newLane, int newLength) {
            missing = false;
            lane = newLane;
            length = newLength;
            Arrays.fill(items, 0);
        }

        void store(int i, int v) {
            if (lane == BYTES) {
                items[i] = (byte) v;
            } else if (lane == SHORTS) {
                items[i] = (short) v;
            } else {
                items[i] = v;
            }
        }

        /** No sum of from and many: it could go beyond an int. */
        boolean hasPart(int from, int many) {
            return from >= 0 && many >= 0 && from <= length - many;
        }

        boolean tellsPlaces(int many, int bits) {
            for (int i = 0; i < many; i++) {
                if (items[i] < 0 || items[i] >= bits) {
                    return false;
                }
            }
            return true;
        }
    }

    /** The masks have zeros behind the end, always: counting and joining rely on it. */
    private static final class BitVector {
        final int[] masks = new int[MOST_BLOCKS];
        int length;

        int bitAt(int place) {
            if (place < 0 || place >= length) {
                return 0;
            }
            return masks[place / BLOCK] >> place % BLOCK & 1;
        }

        void write(int place, int value) {
            if (place < 0 || place >= length) {
                return;
            }
            int block = place / BLOCK;
            int worth = 1 << place % BLOCK;
            masks[block] = value == 1 ? masks[block] | worth : masks[block] & ~worth;
        }

        void append(int value) {
            if (length < MOST_BITS) {
                length++;
                write(length - 1, value);
            }
        }

        void appendRun(Run run) {
            for (int j = 0; j < run.length; j++) {
                append(run.bitOf(j));
            }
        }

        void clearTo(int newLength) {
            length = newLength;
            Arrays.fill(masks, 0);
        }

        void shorten(int newLength) {
            length = newLength;
            for (int b = 0; b < MOST_BLOCKS; b++) {
                masks[b] &= firstPlaces(length - BLOCK * b);
            }
        }

        void invert() {
            for (int b = 0; b < MOST_BLOCKS; b++) {
                masks[b] = ~masks[b] & firstPlaces(length - BLOCK * b);
            }
        }

        void copyFrom(BitVector other) {
            length = other.length;
            System.arraycopy(other.masks, 0, masks, 0, MOST_BLOCKS);
        }

        /** This may be a or b: each block is read ahead of being written. */
        void becomeJoined(int how, BitVector a, BitVector b) {
            length = Math.max(a.length, b.length);
            for (int i = 0; i < MOST_BLOCKS; i++) {
                masks[i] = joinedMask(how, a.masks[i], b.masks[i]);
            }
        }

        private static int joinedMask(int how, int a, int b) {
            switch (how) {
                case 0:
                    return a & b;
                case 1:
                    return a | b;
                case 2:
                    return a ^ b;
                default:
                    return a & ~b;
            }
        }

        int onesAhead(int place) {
            int sum = 0;
            for (int b = 0; b < MOST_BLOCKS; b++) {
                sum += Integer.bitCount(masks[b] & firstPlaces(place - BLOCK * b));
            }
            return sum;
        }

        int countOnes() {
            return onesAhead(length);
        }

        int blockCount() {
            return (length + BLOCK - 1) / BLOCK;
        }

        int entryCount() {
            return (blockCount() + BLOCKS_AN_ENTRY - 1) / BLOCKS_AN_ENTRY;
        }

        int classOf(int block) {
            return Integer.bitCount(masks[block]);
        }

        int beginOf(int block) {
            int sum = 0;
            for (int b = 0; b < block; b++) {
                sum += WIDTHS[classOf(b)];
            }
            return sum;
        }

        int payloadBits() {
            return beginOf(blockCount());
        }

        long payloadWord(int from) {
            long word = 0;
            int begin = -from;
            for (int b = 0; b < blockCount(); b++) {
                int width = WIDTHS[classOf(b)];
                if (begin < WORD_BITS && begin + width > 0) {
                    long offset = offsetOf(masks[b]);
                    word |= begin >= 0 ? offset << begin : offset >> -begin;
                }
                begin += width;
            }
            return word;
        }
    }

    /** A ring of what vectors were ahead of the acts; the oldest makes room for the newest. */
    private static final class History {
        final BitVector[] before = new BitVector[MOST_ACTS];
        final int[] changed = new int[MOST_ACTS];
        int oldest;
        int held;

        History() {
            for (int i = 0; i < MOST_ACTS; i++) {
                before[i] = new BitVector();
            }
        }

        void keep(int vector, BitVector content) {
            int slot = (oldest + held) % MOST_ACTS;
            before[slot].copyFrom(content);
            changed[slot] = vector;
            if (held < MOST_ACTS) {
                held++;
            } else {
                oldest = (oldest + 1) % MOST_ACTS;
            }
        }

        void giveBack(BitVector[] vectors) {
            if (held > 0) {
                held--;
                int slot = (oldest + held) % MOST_ACTS;
                vectors[changed[slot]].copyFrom(before[slot]);
            }
        }

        void forgetAll() {
            held = 0;
        }
    }

    /** The tape, and what the latest reading of it told; place is that of its fault, if any. */
    private static final class TextReader {
        final int[] tape = new int[TAPE];
        final int[] kinds = new int[MOST_RUNS];
        final int[] lengths = new int[MOST_RUNS];
        int tapeLength;
        int place;
        int runCount;
        private int bitSum;
        private int currentKind;
        private int currentLength;

        boolean hasRoom() {
            return tapeLength < TAPE;
        }

        int append(int letter) {
            if (hasRoom()) {
                tape[tapeLength] = letter;
                tapeLength++;
            }
            return tapeLength;
        }

        void emptyTape() {
            tapeLength = 0;
        }

        /** The number of the first fault, which lies at place; 0: there is none. */
        int readTape() {
            place = 0;
            runCount = 0;
            bitSum = 0;
            int fault = readRun();
            for (int i = 0; i < TAPE && fault == 0 && place < tapeLength; i++) {
                fault = readRun();
            }
            return fault;
        }

        private int readRun() {
            int fault = readSort();
            if (fault == 0) {
                fault = readNumber();
            }
            if (fault == 0) {
                fault = readSemicolon();
            }
            return fault;
        }

        private int readSort() {
            currentKind = kindOfLetter(byteAt(place));
            if (currentKind == RUN) {
                return FAULT_STANDS_WRONG;
            }
            if (runCount >= MOST_RUNS) {
                return FAULT_RUNS;
            }
            place++;
            return 0;
        }

        private int readNumber() {
            int figures = 0;
            int value = 0;
            for (int i = place; i < tapeLength && isFigure(byteAt(i)) && figures < 3; i++) {
                figures++;
                value = 10 * value + byteAt(i) - '0';
            }
            if (figures < 1 || figures > 2) {
                return FAULT_STANDS_WRONG;
            }
            if (value < 1) {
                return FAULT_NUMBER;
            }
            if (bitSum + value > MOST_BITS) {
                return FAULT_BITS;
            }
            currentLength = value;
            place += figures;
            return 0;
        }

        private int readSemicolon() {
            if (byteAt(place) != ';' || runCount >= MOST_RUNS) {
                return FAULT_STANDS_WRONG;
            }
            kinds[runCount] = currentKind;
            lengths[runCount] = currentLength;
            runCount++;
            bitSum += currentLength;
            place++;
            return 0;
        }

        private int byteAt(int i) {
            return i < 0 || i >= tapeLength ? NONE : tape[i];
        }

        private static boolean isFigure(int letter) {
            return letter >= '0' && letter <= '9';
        }

        /** RUN stands for a letter, or another byte, or the end, that begins no run. */
        private static int kindOfLetter(int letter) {
            switch (letter) {
                case 'z':
                    return ZEROS;
                case 'o':
                    return ONES;
                case 't':
                    return THIRDS;
                case 'a':
                    return ALTERNATE;
                case 'b':
                    return BURSTS;
                default:
                    return RUN;
            }
        }
    }

    private static final class Trace {
        final int[] numbers = new int[MOST_TRACED];
        int held;

        void note(int body) {
            if (held < MOST_TRACED) {
                numbers[held] = body;
                held++;
            }
        }
    }

    /**
     * A run as the text told it. The bodies of an ask call one another at most six deep: a size
     * asks for a mark only of zeros, a mark for a size only of alternates.
     */
    private abstract static class Run {
        final int number;
        final int length;

        Run(int number, int length) {
            this.number = number;
            this.length = length;
        }

        abstract int kindNumber();

        abstract int bitOf(int j);

        int onesWithin() {
            int sum = 0;
            for (int j = 0; j < length; j++) {
                sum += bitOf(j);
            }
            return sum;
        }

        int tellSize(Trace trace) {
            trace.note(10);
            return length;
        }

        int tellMark(Trace trace) {
            trace.note(20);
            return number;
        }
    }

    private static class ZerosRun extends Run {
        ZerosRun(int number, int length) {
            super(number, length);
        }

        int kindNumber() {
            return ZEROS;
        }

        int bitOf(int j) {
            return 0;
        }

        int tellSize(Trace trace) {
            trace.note(11);
            int plain = super.tellSize(trace);
            return plain + tellMark(trace);
        }

        int tellMark(Trace trace) {
            trace.note(21);
            return super.tellMark(trace) + onesWithin();
        }
    }

    private static final class OnesRun extends ZerosRun {
        OnesRun(int number, int length) {
            super(number, length);
        }

        int kindNumber() {
            return ONES;
        }

        int bitOf(int j) {
            return 1;
        }

        int tellSize(Trace trace) {
            trace.note(12);
            return 0 - super.tellSize(trace);
        }

        int tellMark(Trace trace) {
            trace.note(24);
            return 2 * super.tellMark(trace);
        }
    }

    private static final class ThirdsRun extends ZerosRun {
        ThirdsRun(int number, int length) {
            super(number, length);
        }

        int kindNumber() {
            return THIRDS;
        }

        int bitOf(int j) {
            return j % 3 == 0 ? 1 : 0;
        }

        int tellMark(Trace trace) {
            trace.note(22);
            return super.tellMark(trace) - 1000;
        }
    }

    private static class AlternateRun extends Run {
        AlternateRun(int number, int length) {
            super(number, length);
        }

        int kindNumber() {
            return ALTERNATE;
        }

        int bitOf(int j) {
            return j % 2 == 0 ? 1 : 0;
        }

        int tellSize(Trace trace) {
            trace.note(13);
            return super.tellSize(trace) - 100;
        }

        int tellMark(Trace trace) {
            trace.note(23);
            int plain = super.tellMark(trace);
            return plain - tellSize(trace);
        }
    }

    private static final class BurstsRun extends AlternateRun {
        BurstsRun(int number, int length) {
            super(number, length);
        }

        int kindNumber() {
            return BURSTS;
        }

        int bitOf(int j) {
            return super.bitOf(j / 4);
        }

        int tellSize(Trace trace) {
            trace.note(14);
            return 2 * super.tellSize(trace);
        }
    }
}
