import java.util.LinkedHashMap;
import java.util.Map;
import java.util.function.Supplier;

/**
 * Every number that a call takes, at the last that is as told and the first that is not, on both
 * sides; and all that can be seen of an object after a refused call, beside a twin that was spared
 * the call: "What is refused, or found, changes nothing but status()."
 */
public final class RefusalsTest extends Checks {
    /** A call with one of its numbers left open. */
    private interface Call {
        long at(ClassBits x, int number);
    }

    public static void main(String[] args) {
        rows();
        copyBetweenRows();
        tapeAndTexts();
        putAddCut();
        joinTurn();
        takeFromRows();
        undoAndImages();
        whatItIs();
        masks();
        ranks();
        compared();
        tellToRows();
        drawnOnes();
        asked();
        refusedOfNothing();
        refusedWhenFull();
        faultsLeaveAllElse();
        answersAlone();
        statusOfOthers();
        statusOfFineCalls();
        end();
    }

    // ---- objects to be refused by

    /** Something of all that an object can hold; the latest call found nothing. */
    private static ClassBits scene() {
        ClassBits x = new ClassBits();
        read(x, 0, "o4;t5;a6;b9;z3;");
        x.add(1, 1, 300);
        x.add(1, 0, 180);
        addAll(x, 3, "00");
        x.image(0);
        addAll(x, 3, "100");
        x.turn(3);
        x.turn(3);
        makeRow(x, 0, 0, 5, 100, 127);
        makeRow(x, 1, 1, 300, 2);
        makeRow(x, 2, 2, 479, 0, 7, 33);
        makeRow(x, 3, 0);
        read(x, 0, "z0");
        feedAll(x, "o7;");
        x.ask(1, 0);
        x.as(0, 0);
        return x;
    }

    private static ClassBits sceneWithFinding() {
        ClassBits x = scene();
        x.copy(0, 0, 1, 0, 1);
        return x;
    }

    /** Twelve runs, twelve acts, sixty bytes, 480 bits. */
    private static ClassBits fullScene() {
        ClassBits x = new ClassBits();
        read(x, 0, "o9;a9;o9;a9;o9;a9;o9;a9;o9;a9;o9;a9;");
        x.add(1, 1, 480);
        for (int i = 1; i <= 12; i++) {
            x.add(2, i % 2, i);
        }
        x.image(0);
        x.image(1);
        feedAll(x, "z40;".repeat(15));
        x.ask(11, 0);
        return x;
    }

    private static void makeRow(ClassBits x, int row, int lane, int... items) {
        x.row(row, lane, items.length);
        for (int i = 0; i < items.length; i++) {
            x.set(row, i, items[i]);
        }
    }

    // ---- all that can be seen

    /** Uses the object up: what is seen comes by name, in less than 400 calls. */
    private static Map<String, Long> seen(ClassBits x) {
        Map<String, Long> all = new LinkedHashMap<>();
        all.put("fault", (long) x.fault());
        for (int what = 0; what <= 5; what++) {
            all.put(what == 5 ? "tape" : "count " + what, (long) x.count(what));
        }
        for (int i = 0; i <= 6; i++) {
            all.put("trace " + i, (long) x.trace(i));
        }
        seeRuns(x, all);
        seeVectors(x, all);
        seeActs(x, all);
        for (int k = 0; k < 2; k++) {
            all.put("restore " + k, (long) x.restore(k));
            seeBriefly(x, all, "image " + k);
        }
        seeRows(x, all);
        feedAll(x, "z1;");
        all.put("tape read", (long) x.load(2));
        return all;
    }

    private static void seeRuns(ClassBits x, Map<String, Long> all) {
        for (int run = 0; run <= x.count(1); run++) {
            all.put("kind " + run, (long) x.kind(run));
            all.put("ask " + run, (long) x.ask(run, 0));
        }
    }

    private static void seeVectors(ClassBits x, Map<String, Long> all) {
        for (int v = 0; v < 4; v++) {
            all.put("bits " + v, (long) x.bits(v));
            for (int b = 0; 15 * b < x.bits(v); b++) {
                all.put("block " + v + " " + b, (long) x.block(v, b, 3));
            }
        }
    }

    private static void seeActs(ClassBits x, Map<String, Long> all) {
        for (int i = 0; i <= 12; i++) {
            all.put("undo " + i, (long) x.undo());
            seeBriefly(x, all, "undone " + i);
        }
    }

    private static void seeBriefly(ClassBits x, Map<String, Long> all, String when) {
        for (int v = 0; v < 4; v++) {
            all.put(when + " bits " + v, (long) x.bits(v));
            all.put(when + " weight " + v, (long) x.weight(v, 1));
        }
    }

    /** An item is read by taking it, as the first of its row, to a vector. */
    private static void seeRows(ClassBits x, Map<String, Long> all) {
        for (int r = 0; r < 8; r++) {
            all.put("lane with row 0 " + r, (long) x.copy(r, 0, 0, 0, 0));
        }
        for (int r = 0; r < 8; r++) {
            for (int i = 0; i <= 5 && x.copy(r, i, r, 0, 1) == 1; i++) {
                x.take(2, 480, r, 1);
                all.put("item " + r + " " + i, (long) x.select(2, 0, 1));
            }
            all.put("lane " + r, (long) x.set(r, 0, 70000));
            all.put("items " + r, (long) x.drop(r));
        }
    }

    private static void dueAlike(String call, Map<String, Long> got, Map<String, Long> want) {
        for (String name : want.keySet()) {
            if (!want.get(name).equals(got.get(name))) {
                fail(call + " changed " + name + " from " + want.get(name) + " to "
                        + got.get(name));
                return;
            }
        }
        due(call + ": as much to see", got.size(), want.size());
    }

    // ---- what is due of a refused call

    private static void refused(String name, Call call, int number, long answer) {
        refusedOn(RefusalsTest::scene, name, call, number, answer);
        refusedOn(RefusalsTest::sceneWithFinding, name, call, number, answer);
    }

    private static void refusedOn(Supplier<ClassBits> scene, String name, Call call, int number,
            long answer) {
        ClassBits spared = scene.get();
        ClassBits x = scene.get();
        String told = name.replace("#", "" + number);
        due(told, call.at(x, number), answer);
        boolean found = answer < FINDINGS && answer >= OVER;
        due("status() after " + told, x.status(), found ? FINDINGS - answer : spared.status());
        dueAlike(told, seen(x), seen(spared));
    }

    private static void refused(String name, long answer, Call call) {
        refused(name, call, 0, answer);
    }

    private static void fine(String name, Call call, int number, long answer) {
        due(name.replace("#", "" + number), call.at(scene(), number), answer);
    }

    /** A number that may be least to most, what these two answer, what is answered outside. */
    private static void range(String name, Call call, int least, long atLeast, int most,
            long atMost, int below, int above) {
        fine(name, call, least, atLeast);
        fine(name, call, most, atMost);
        refused(name, call, least - 1, below);
        refused(name, call, LEAST, below);
        refused(name, call, most + 1, above);
        refused(name, call, MOST, above);
    }

    private static void range(String name, Call call, int least, long atLeast, int most,
            long atMost) {
        range(name, call, least, atLeast, most, atMost, BAD, BAD);
    }

    // ---- the calls

    private static void rows() {
        sentence("row: BAD: ROW");
        range("row(#, 0, 1)", (x, i) -> x.row(i, 0, 1), 0, 1, 7, 1);
        sentence("row: BAD: LANE");
        range("row(0, #, 1)", (x, i) -> x.row(0, i, 1), 0, 1, 2, 1);
        sentence("row: BAD: n above 40; SIZE");
        range("row(2, 1, #)", (x, i) -> x.row(2, 1, i), 0, 0, 40, 40, SIZE, BAD);
        sentence("row: BAD ahead of SIZE");
        refused("row(8, 0, -1)", BAD, (x, i) -> x.row(8, 0, -1));
        refused("row(-1, 0, -1)", BAD, (x, i) -> x.row(-1, 0, -1));
        refused("row(0, 3, -1)", BAD, (x, i) -> x.row(0, 3, -1));
        refused("row(0, -1, -1)", BAD, (x, i) -> x.row(0, -1, -1));

        sentence("set: BAD: ROW");
        range("set(#, 0, 1)", (x, i) -> x.set(i, 0, 1), 0, 1, 7, NULL);
        sentence("set: NULL");
        refused("set(4, 0, 1)", NULL, (x, i) -> x.set(4, 0, 1));
        sentence("set: PLACE");
        range("set(2, #, 9)", (x, i) -> x.set(2, i, 9), 0, 9, 3, 9, PLACE, PLACE);
        range("set(0, #, 9)", (x, i) -> x.set(0, i, 9), 0, 9, 2, 9, PLACE, PLACE);
        refused("set(3, 0, 1) of no items", PLACE, (x, i) -> x.set(3, 0, 1));
        sentence("set: BAD ahead of PLACE, NULL ahead of PLACE");
        refused("set(8, -1, 1)", BAD, (x, i) -> x.set(8, -1, 1));
        refused("set(7, -1, 1)", NULL, (x, i) -> x.set(7, -1, 1));

        sentence("drop: BAD");
        range("drop(#)", (x, i) -> x.drop(i), 0, 3, 7, NULL);
        sentence("drop: NULL");
        refused("drop(4)", NULL, (x, i) -> x.drop(4));
        fine("drop(#) of no items", (x, i) -> x.drop(i), 3, 0);
    }

    private static void copyBetweenRows() {
        sentence("copy: BAD: ROWS");
        range("copy(#, 0, 0, 0, 1)", (x, i) -> x.copy(i, 0, 0, 0, 1), 0, 1, 7, NULL);
        range("copy(0, 0, #, 0, 1)", (x, i) -> x.copy(0, 0, i, 0, 1), 0, 1, 7, NULL);
        sentence("copy: NULL");
        refused("copy(4, 0, 0, 0, 0)", NULL, (x, i) -> x.copy(4, 0, 0, 0, 0));
        refused("copy(0, 0, 4, 0, 0)", NULL, (x, i) -> x.copy(0, 0, 4, 0, 0));
        sentence("copy: STORE");
        refused("copy(0, 0, 1, 0, 1)", STORE, (x, i) -> x.copy(0, 0, 1, 0, 1));
        refused("copy(2, 0, 1, 0, 1)", STORE, (x, i) -> x.copy(2, 0, 1, 0, 1));
        refused("copy(0, 0, 2, 0, 0)", STORE, (x, i) -> x.copy(0, 0, 2, 0, 0));
        fine("copy(0, 0, #, 0, 0)", (x, i) -> x.copy(0, 0, i, 0, 0), 3, 0);
        sentence("copy: PLACE (i below 0, or beyond an end)");
        range("copy(2, #, 2, 0, 2)", (x, i) -> x.copy(2, i, 2, 0, 2), 0, 2, 2, 2, PLACE, PLACE);
        range("copy(2, #, 2, 0, 0)", (x, i) -> x.copy(2, i, 2, 0, 0), 0, 0, 4, 0, PLACE, PLACE);
        sentence("copy: PLACE (j below 0, or beyond an end)");
        range("copy(2, 0, 2, #, 2)", (x, i) -> x.copy(2, 0, 2, i, 2), 0, 2, 2, 2, PLACE, PLACE);
        range("copy(0, 0, 3, #, 0)", (x, i) -> x.copy(0, 0, 3, i, 0), 0, 0, 0, 0, PLACE, PLACE);
        sentence("copy: PLACE (n below 0, or beyond an end)");
        range("copy(2, 1, 2, 0, #)", (x, i) -> x.copy(2, 1, 2, 0, i), 0, 0, 3, 3, PLACE, PLACE);
        range("copy(2, 0, 2, 1, #)", (x, i) -> x.copy(2, 0, 2, 1, i), 0, 0, 3, 3, PLACE, PLACE);
        sentence("copy: BAD, NULL, STORE, PLACE, the first of these that fits");
        refused("copy(8, 0, 4, 0, 1)", BAD, (x, i) -> x.copy(8, 0, 4, 0, 1));
        refused("copy(4, 0, 8, 0, 1)", BAD, (x, i) -> x.copy(4, 0, 8, 0, 1));
        refused("copy(4, -1, 1, 0, 1)", NULL, (x, i) -> x.copy(4, -1, 1, 0, 1));
        refused("copy(1, -1, 4, 0, 1)", NULL, (x, i) -> x.copy(1, -1, 4, 0, 1));
        refused("copy(0, -1, 1, 9, -1)", STORE, (x, i) -> x.copy(0, -1, 1, 9, -1));
    }

    private static void tapeAndTexts() {
        sentence("feed: A byte (0 to 255). BAD");
        range("feed(#)", (x, i) -> x.feed(i), 0, 4, 255, 4);
        sentence("load: BAD (the tape stays)");
        range("load(#)", (x, i) -> x.load(i), 0, 7, 3, 7);
    }

    private static void putAddCut() {
        sentence("put: BAD (the VECTOR)");
        range("put(#, 0, 1)", (x, i) -> x.put(i, 0, 1), 0, 1, 3, 0);
        sentence("put: BAD (there is no such BIT)");
        range("put(0, #, 1)", (x, i) -> x.put(0, i, 1), 0, 1, 26, 0);
        range("put(1, #, 1)", (x, i) -> x.put(1, i, 1), 0, 1, 479, 0);
        refused("put(2, 0, 1) of no bits", BAD, (x, i) -> x.put(2, 0, 1));
        sentence("put: BIT i becomes v (0, 1). BAD");
        range("put(0, 0, #)", (x, i) -> x.put(0, 0, i), 0, 1, 1, 1);

        sentence("add: BAD (the VECTOR)");
        range("add(#, 1, 1)", (x, i) -> x.add(i, 1, 1), 0, 28, 3, 6);
        sentence("add: of a value (0, 1). BAD");
        range("add(0, #, 1)", (x, i) -> x.add(0, i, 1), 0, 28, 1, 28);
        sentence("add: n BITS (1 to 480). BAD");
        range("add(2, 1, #)", (x, i) -> x.add(2, 1, i), 1, 1, 480, 480);
        sentence("add: FULL: more than 480");
        fine("add(0, 1, #)", (x, i) -> x.add(0, 1, i), 453, 480);
        refused("add(0, 1, 454)", FULL, (x, i) -> x.add(0, 1, 454));
        refused("add(0, 1, 480)", FULL, (x, i) -> x.add(0, 1, 480));
        refused("add(1, 0, 1)", FULL, (x, i) -> x.add(1, 0, 1));
        sentence("add: BAD ahead of FULL");
        refused("add(1, 2, 1)", BAD, (x, i) -> x.add(1, 2, 1));
        refused("add(1, 0, 481)", BAD, (x, i) -> x.add(1, 0, 481));

        sentence("cut: BAD (the VECTOR)");
        range("cut(#, 0)", (x, i) -> x.cut(i, 0), 0, 27, 3, 5);
        sentence("cut: BAD: n below 0, above how many there are");
        range("cut(0, #)", (x, i) -> x.cut(0, i), 0, 27, 27, 27);
        range("cut(1, #)", (x, i) -> x.cut(1, i), 0, 480, 480, 480);
        range("cut(2, #)", (x, i) -> x.cut(2, i), 0, 0, 0, 0);
    }

    private static void joinTurn() {
        sentence("join: how 0 to 3. BAD");
        range("join(#, 0, 3, 2)", (x, i) -> x.join(i, 0, 3, 2), 0, 1, 3, 13);
        sentence("join: BAD (the VECTORS)");
        range("join(1, #, 2, 2)", (x, i) -> x.join(1, i, 2, 2), 0, 14, 3, 1);
        range("join(1, 2, #, 2)", (x, i) -> x.join(1, 2, i, 2), 0, 14, 3, 1);
        range("join(1, 1, 2, #)", (x, i) -> x.join(1, 1, 2, i), 0, 300, 3, 300);
        sentence("turn: BAD");
        range("turn(#)", (x, i) -> x.turn(i), 0, 13, 3, 4);
    }

    private static void takeFromRows() {
        sentence("take: BAD: VECTOR");
        range("take(#, 9, 1, 0)", (x, i) -> x.take(i, 9, 1, 0), 0, 0, 3, 0);
        sentence("take: BAD: ROW");
        range("take(2, 480, #, 1)", (x, i) -> x.take(2, 480, i, 1), 0, 1, 7, NULL);
        sentence("take: BAD: n above 480; SIZE (n below 0)");
        range("take(0, #, 2, 0)", (x, i) -> x.take(0, i, 2, 0), 0, 0, 480, 0, SIZE, BAD);
        sentence("take: BAD: many above 40");
        refused("take(0, 480, 2, 41)", BAD, (x, i) -> x.take(0, 480, 2, 41));
        refused("take(0, 480, 2, most)", BAD, (x, i) -> x.take(0, 480, 2, MOST));
        refused("take(0, 480, 2, 40)", PLACE, (x, i) -> x.take(0, 480, 2, 40));
        sentence("take: NULL");
        refused("take(0, 9, 4, 0)", NULL, (x, i) -> x.take(0, 9, 4, 0));
        sentence("take: PLACE (many below 0, beyond the ROW)");
        Call manyOfFour = (x, i) -> x.take(0, 480, 2, i);
        fine("take(0, 480, 2, #)", manyOfFour, 0, 0);
        fine("take(0, 480, 2, #)", manyOfFour, 4, 4);
        refused("take(0, 480, 2, #)", manyOfFour, -1, PLACE);
        refused("take(0, 480, 2, #)", manyOfFour, LEAST, PLACE);
        refused("take(0, 480, 2, #)", manyOfFour, 5, PLACE);
        Call manyOfNone = (x, i) -> x.take(0, 9, 3, i);
        fine("take(0, 9, 3, #)", manyOfNone, 0, 0);
        refused("take(0, 9, 3, #)", manyOfNone, -1, PLACE);
        refused("take(0, 9, 3, #)", manyOfNone, 1, PLACE);
        sentence("take: PLACE (an ITEM that is no place of it)");
        refused("take(0, 479, 2, 1) of item 479", PLACE, (x, i) -> x.take(0, 479, 2, 1));
        refused("take(0, 127, 0, 3) of items 5, 100, 127", PLACE,
                (x, i) -> x.take(0, 127, 0, 3));
        fine("take(0, #, 0, 3)", (x, i) -> x.take(0, i, 0, 3), 128, 3);
        fine("take(0, #, 0, 2)", (x, i) -> x.take(0, i, 0, 2), 101, 2);
        refused("take(0, 0, 0, 1)", PLACE, (x, i) -> x.take(0, 0, 0, 1));
        sentence("take: BAD, SIZE, NULL, PLACE, the first of these that fits");
        refused("take(4, -1, 4, -1)", BAD, (x, i) -> x.take(4, -1, 4, -1));
        refused("take(0, -1, 8, -1)", BAD, (x, i) -> x.take(0, -1, 8, -1));
        refused("take(0, 481, 4, -1)", BAD, (x, i) -> x.take(0, 481, 4, -1));
        refused("take(0, -1, 4, 41)", BAD, (x, i) -> x.take(0, -1, 4, 41));
        refused("take(0, -1, 4, -1)", SIZE, (x, i) -> x.take(0, -1, 4, -1));
        refused("take(0, -1, 2, 5)", SIZE, (x, i) -> x.take(0, -1, 2, 5));
        refused("take(0, 0, 4, -1)", NULL, (x, i) -> x.take(0, 0, 4, -1));
        refused("take(0, 0, 4, 40)", NULL, (x, i) -> x.take(0, 0, 4, 40));
    }

    private static void undoAndImages() {
        sentence("image: An IMAGE (0, 1). BAD");
        range("image(#)", (x, i) -> x.image(i), 0, 315, 1, 315);
        sentence("restore: BAD; STATE: none was kept");
        range("restore(#)", (x, i) -> x.restore(i), 0, 314, 1, STATE);
        refused("restore(1)", STATE, (x, i) -> x.restore(1));
        sentence("undo: STATE: none");
        refusedOn(() -> {
            ClassBits x = scene();
            x.restore(0);
            return x;
        }, "undo()", (x, i) -> x.undo(), 0, STATE);
    }

    private static void whatItIs() {
        sentence("bits: BAD");
        range("bits(#)", (x, i) -> x.bits(i), 0, 27, 3, 5);
        sentence("get: BAD");
        range("get(#, 2)", (x, i) -> x.get(i, 2), 0, 1, 3, 1);
        range("get(0, #)", (x, i) -> x.get(0, i), 0, 1, 26, 0);
        refused("get(2, 0) of no bits", BAD, (x, i) -> x.get(2, 0));
        sentence("ones: BAD");
        range("ones(#)", (x, i) -> x.ones(i), 0, 14, 3, 1);
        sentence("block: BAD");
        range("block(#, 0, 0)", (x, i) -> x.block(i, 0, 0), 0, 9, 3, 1);
        range("block(0, #, 0)", (x, i) -> x.block(0, i, 0), 0, 9, 1, 5);
        range("block(1, #, 0)", (x, i) -> x.block(1, i, 0), 0, 15, 31, 0);
        range("block(1, 0, #)", (x, i) -> x.block(1, 0, i), 0, 15, 4, 0);
        refused("block(2, 0, 0) of no bits", BAD, (x, i) -> x.block(2, 0, 0));
        sentence("entry: BAD");
        range("entry(#, 0, 0)", (x, i) -> x.entry(i, 0, 0), 0, 0, 3, 0);
        range("entry(1, #, 0)", (x, i) -> x.entry(1, i, 0), 0, 0, 7, 300);
        range("entry(0, #, 1)", (x, i) -> x.entry(0, i, 1), 0, 0, 0, 0);
        range("entry(1, 7, #)", (x, i) -> x.entry(1, 7, i), 0, 300, 1, 0);
        refused("entry(2, 0, 0) of no bits", BAD, (x, i) -> x.entry(2, 0, 0));
        sentence("size: BAD");
        range("size(#, 4)", (x, i) -> x.size(i, 4), 0, 30, 3, 15);
        range("size(1, #)", (x, i) -> x.size(1, i), 0, 0, 4, 480);
        sentence("payload: BAD: k 0 to 6");
        range("payload(#, 0)", (x, i) -> x.payload(i, 0), 0, 923 + (56 << 13), 3, 2);
        range("payload(3, #)", (x, i) -> x.payload(3, i), 0, 2, 6, 0);
        sentence("count: BAD");
        range("count(#)", (x, i) -> x.count(i), 0, 4, 5, 3);
    }

    private static void masks() {
        sentence("choose: n 0 to 15. BAD");
        range("choose(#, 0)", (x, i) -> x.choose(i, 0), 0, 1, 15, 1);
        sentence("choose: k 0 to 15. BAD");
        range("choose(15, #)", (x, i) -> x.choose(15, i), 0, 1, 15, 1);
        sentence("offset: a MASK (0 to 32767). BAD");
        range("offset(#)", (x, i) -> x.offset(i), 0, 0, 32767, 0);
        sentence("mask: BAD: there is none");
        range("mask(#, 0)", (x, i) -> x.mask(i, 0), 0, 0, 15, 32767);
        int[] many = {1, 15, 105, 455, 1365, 3003, 5005, 6435};
        for (int sort = 0; sort < 8; sort++) {
            int ones = sort;
            int first = (1 << ones) - 1;
            int last = first << 15 - ones;
            range("mask(" + ones + ", #)", (x, i) -> x.mask(ones, i), 0, first,
                    many[ones] - 1, last);
            range("mask(" + (15 - ones) + ", #)", (x, i) -> x.mask(15 - ones, i), 0,
                    (1 << 15 - ones) - 1, many[ones] - 1, 32767 - first);
        }
    }

    private static void ranks() {
        sentence("rank: a place (0 to how many BITS there are). BAD");
        range("rank(#, 0, 1)", (x, i) -> x.rank(i, 0, 1), 0, 0, 3, 0);
        range("rank(0, #, 1)", (x, i) -> x.rank(0, i, 1), 0, 0, 27, 14);
        range("rank(2, #, 1)", (x, i) -> x.rank(2, i, 1), 0, 0, 0, 0);
        sentence("rank: v (0, 1). BAD");
        range("rank(0, 27, #)", (x, i) -> x.rank(0, 27, i), 0, 13, 1, 14);
        sentence("select: BAD: v, k below 0, too");
        range("select(#, 0, 1)", (x, i) -> x.select(i, 0, 1), 0, 0, 3, 2);
        range("select(0, 0, #)", (x, i) -> x.select(0, 0, i), 0, 5, 1, 0);
        fine("select(0, #, 1)", (x, i) -> x.select(0, i, 1), 0, 0);
        fine("select(0, #, 1)", (x, i) -> x.select(0, i, 1), MOST, NONE);
        refused("select(0, -1, 1)", BAD, (x, i) -> x.select(0, -1, 1));
        refused("select(0, least, 1)", BAD, (x, i) -> x.select(0, LEAST, 1));
        refused("select(2, -1, 1)", BAD, (x, i) -> x.select(2, -1, 1));
        sentence("next: BAD: a place beyond how many BITS there are, too");
        range("next(#, 0, 1)", (x, i) -> x.next(i, 0, 1), 0, 0, 3, 2);
        range("next(0, #, 0)", (x, i) -> x.next(0, i, 0), 0, 5, 27, NONE);
        range("next(2, #, 0)", (x, i) -> x.next(2, i, 0), 0, NONE, 0, NONE);
        range("next(0, 0, #)", (x, i) -> x.next(0, 0, i), 0, 5, 1, 0);
        sentence("last: BAD, likewise");
        range("last(#, 5, 1)", (x, i) -> x.last(i, 5, 1), 0, 4, 3, 2);
        range("last(0, #, 0)", (x, i) -> x.last(0, i, 0), 0, NONE, 27, 26);
        range("last(2, #, 0)", (x, i) -> x.last(2, i, 0), 0, NONE, 0, NONE);
        range("last(0, 27, #)", (x, i) -> x.last(0, 27, i), 0, 26, 1, 23);
        sentence("stretches: BAD");
        range("stretches(#)", (x, i) -> x.stretches(i), 0, 14, 3, 3);
        sentence("longest: BAD");
        range("longest(#, 1, 0)", (x, i) -> x.longest(i, 1, 0), 0, 5, 3, 1);
        range("longest(0, #, 0)", (x, i) -> x.longest(0, i, 0), 0, 4, 1, 5);
        range("longest(0, 0, #)", (x, i) -> x.longest(0, 0, i), 0, 4, 1, 19);
    }

    private static void compared() {
        sentence("alike: BAD");
        range("alike(#, 3, 1)", (x, i) -> x.alike(i, 3, 1), 0, 14, 3, 1);
        range("alike(3, #, 1)", (x, i) -> x.alike(3, i, 1), 0, 14, 3, 1);
        range("alike(0, 3, #)", (x, i) -> x.alike(0, 3, i), 0, 1, 1, 14);
        sentence("weight: BAD");
        range("weight(#, 2)", (x, i) -> x.weight(i, 2), 0, 306, 3, 6);
        sentence("weight: OVER");
        range("weight(3, #)", (x, i) -> x.weight(3, i), -715827882, -2147483646, 715827882,
                2147483646, OVER, OVER);
        range("weight(0, #)", (x, i) -> x.weight(0, i), -14035840, -2147483520, 14035840,
                2147483520, OVER, OVER);
    }

    private static void tellToRows() {
        sentence("tell: BAD: VECTOR");
        range("tell(#, 0, 2, 0)", (x, i) -> x.tell(i, 0, 2, 0), 0, 4, 3, 1);
        sentence("tell: BAD: k below 0");
        fine("tell(0, #, 2, 0)", (x, i) -> x.tell(0, i, 2, 0), 0, 4);
        refused("tell(0, -1, 2, 0)", BAD, (x, i) -> x.tell(0, -1, 2, 0));
        refused("tell(0, least, 2, 0)", BAD, (x, i) -> x.tell(0, LEAST, 2, 0));
        sentence("tell: BAD: ROW");
        range("tell(0, 0, #, 0)", (x, i) -> x.tell(0, 0, i, 0), 0, 3, 7, NULL);
        sentence("tell: NULL");
        refused("tell(0, 0, 4, 0)", NULL, (x, i) -> x.tell(0, 0, 4, 0));
        sentence("tell: PLACE (i below 0, or beyond the ROW; its end may be)");
        range("tell(0, 0, 2, #)", (x, i) -> x.tell(0, 0, 2, i), 0, 4, 4, 0, PLACE, PLACE);
        range("tell(0, 0, 3, #)", (x, i) -> x.tell(0, 0, 3, i), 0, 0, 0, 0, PLACE, PLACE);
        range("tell(2, 0, 1, #)", (x, i) -> x.tell(2, 0, 1, i), 0, 0, 2, 0, PLACE, PLACE);
        sentence("tell: BAD, NULL, PLACE, the first of these that fits");
        refused("tell(0, -1, 4, -1)", BAD, (x, i) -> x.tell(0, -1, 4, -1));
        refused("tell(4, 0, 4, -1)", BAD, (x, i) -> x.tell(4, 0, 4, -1));
        refused("tell(0, 0, 8, -1)", BAD, (x, i) -> x.tell(0, 0, 8, -1));
        refused("tell(0, 0, 4, -1)", NULL, (x, i) -> x.tell(0, 0, 4, -1));
    }

    private static void drawnOnes() {
        sentence("drawn: BAD (the VECTOR)");
        range("drawn(#, 0, 1, 0)", (x, i) -> x.drawn(i, 0, 1, 0), 0, 14, 3, 1);
        sentence("drawn: n times (0 to 200). BAD");
        range("drawn(2, #, 1, 0)", (x, i) -> x.drawn(2, i, 1, 0), 0, 0, 200, 0);
        sentence("drawn: BAD: SEED (1 to 999999), too");
        range("drawn(2, 1, #, 0)", (x, i) -> x.drawn(2, 1, i, 0), 1, 0, 999999, 0);
        sentence("drawn: ones (what = 0), bits of the PAYLOAD (1). BAD");
        range("drawn(3, 0, 1, #)", (x, i) -> x.drawn(3, 0, 1, i), 0, 1, 1, 4);
    }

    private static void asked() {
        sentence("kind: BAD");
        range("kind(#)", (x, i) -> x.kind(i), 0, 2, 4, 1);
        sentence("as: BAD (the RUN)");
        range("as(#, 0)", (x, i) -> x.as(i, 0), 0, 0, 4, 4);
        sentence("as: a KIND (0 .. 5). BAD");
        range("as(3, #)", (x, i) -> x.as(3, i), 0, 3, 5, 3);
        sentence("as: KIND: it is no such one");
        refused("as(3, 1)", KIND, (x, i) -> x.as(3, 1));
        refused("as(4, 2)", KIND, (x, i) -> x.as(4, 2));
        sentence("as: BAD ahead of KIND");
        refused("as(5, 2)", BAD, (x, i) -> x.as(5, 2));
        sentence("ask: BAD (the RUN); what is refused leaves THE TRACE");
        range("ask(#, 0)", (x, i) -> x.ask(i, 0), 0, -12, 4, 7);
        sentence("ask: An ASK (0, 1). BAD");
        range("ask(4, #)", (x, i) -> x.ask(4, i), 0, 7, 1, 4);
        sentence("trace: Number i of THE TRACE; NONE");
        range("trace(#)", (x, i) -> x.trace(i), 0, 11, 4, 20, NONE, NONE);
    }

    // ---- objects with nothing, and with no room

    private static void refusedOfNothing() {
        sentence("a new object: there is no such thing");
        Supplier<ClassBits> none = ClassBits::new;
        refusedOn(none, "undo()", (x, i) -> x.undo(), 0, STATE);
        refusedOn(none, "restore(#)", (x, i) -> x.restore(i), 0, STATE);
        refusedOn(none, "restore(#)", (x, i) -> x.restore(i), 1, STATE);
        refusedOn(none, "restore(#)", (x, i) -> x.restore(i), 2, BAD);
        for (int r = 0; r < 8; r++) {
            refusedOn(none, "drop(#)", (x, i) -> x.drop(i), r, NULL);
            refusedOn(none, "set(#, 0, 1)", (x, i) -> x.set(i, 0, 1), r, NULL);
            refusedOn(none, "copy(#, 0, #, 0, 0)", (x, i) -> x.copy(i, 0, i, 0, 0), r, NULL);
            refusedOn(none, "take(0, 1, #, 0)", (x, i) -> x.take(0, 1, i, 0), r, NULL);
            refusedOn(none, "tell(0, 0, #, 0)", (x, i) -> x.tell(0, 0, i, 0), r, NULL);
        }
        for (int v = 0; v < 4; v++) {
            refusedOn(none, "put(#, 0, 0)", (x, i) -> x.put(i, 0, 0), v, BAD);
            refusedOn(none, "get(#, 0)", (x, i) -> x.get(i, 0), v, BAD);
            refusedOn(none, "cut(#, 1)", (x, i) -> x.cut(i, 1), v, BAD);
            refusedOn(none, "block(#, 0, 0)", (x, i) -> x.block(i, 0, 0), v, BAD);
            refusedOn(none, "entry(#, 0, 0)", (x, i) -> x.entry(i, 0, 0), v, BAD);
            refusedOn(none, "rank(#, 1, 0)", (x, i) -> x.rank(i, 1, 0), v, BAD);
        }
        refusedOn(none, "kind(#)", (x, i) -> x.kind(i), 0, BAD);
        refusedOn(none, "as(#, 0)", (x, i) -> x.as(i, 0), 0, BAD);
        refusedOn(none, "ask(#, 0)", (x, i) -> x.ask(i, 0), 0, BAD);
    }

    private static void refusedWhenFull() {
        Supplier<ClassBits> full = RefusalsTest::fullScene;
        sentence("feed: FULL");
        refusedOn(full, "feed(#)", (x, i) -> x.feed(i), 0, FULL);
        refusedOn(full, "feed(#)", (x, i) -> x.feed(i), 255, FULL);
        sentence("feed: BAD ahead of FULL");
        refusedOn(full, "feed(#)", (x, i) -> x.feed(i), 256, BAD);
        refusedOn(full, "feed(#)", (x, i) -> x.feed(i), -1, BAD);
        sentence("a refused act forgets no older one, though 12 are kept");
        refusedOn(full, "add(1, 1, #)", (x, i) -> x.add(1, 1, i), 1, FULL);
        refusedOn(full, "put(0, #, 1)", (x, i) -> x.put(0, i, 1), 108, BAD);
        refusedOn(full, "cut(0, #)", (x, i) -> x.cut(0, i), 109, BAD);
        refusedOn(full, "join(#, 0, 1, 2)", (x, i) -> x.join(i, 0, 1, 2), 4, BAD);
        refusedOn(full, "turn(#)", (x, i) -> x.turn(i), 4, BAD);
        refusedOn(full, "take(0, 1, #, 0)", (x, i) -> x.take(0, 1, i, 0), 0, NULL);
        refusedOn(full, "load(#)", (x, i) -> x.load(i), 4, BAD);
        sentence("RUNS 0 .. 11");
        refusedOn(full, "kind(#)", (x, i) -> x.kind(i), 12, BAD);
        refusedOn(full, "as(#, 0)", (x, i) -> x.as(i, 0), 12, BAD);
        refusedOn(full, "ask(#, 0)", (x, i) -> x.ask(i, 0), 12, BAD);
        due("kind(11)", fullScene().kind(11), 4);
        due("as(11, 4)", fullScene().as(11, 4), 11);
        due("ask(11, 0)", fullScene().ask(11, 0), -91);
    }

    /** The tape is empty then and the fault is the latest one; nothing else may change. */
    private static void faultsLeaveAllElse() {
        sentence("load: -1000100 less the place of a FAULT: all stays");
        faultOn(RefusalsTest::scene, "load(#) of o7;z", "z", 4, 1);
        faultOn(RefusalsTest::scene, "load(#) of o7;z00;", "z00;", 4, 2);
        faultOn(RefusalsTest::sceneWithFinding, "load(#) of o7;o1;1", "o1;1", 6, 1);
        faultOn(RefusalsTest::sceneWithFinding, "load(#) of o7;z99;..", "z99;z99;z99;z99;z99;", 20,
                4);
        faultOn(RefusalsTest::fullScene, "load(#) of z40; 15 times", "", 48, 3);
    }

    private static void faultOn(Supplier<ClassBits> scene, String name, String more, int place,
            int number) {
        for (int v = 0; v < 4; v++) {
            ClassBits spared = scene.get();
            ClassBits x = scene.get();
            feedAll(x, more);
            String told = name.replace("#", "" + v);
            due(told, x.load(v), FAULT - place);
            due("fault() after " + told, x.fault(), number);
            due("count(5) after " + told, x.count(5), 0);
            due("status() after " + told, x.status(), spared.status());
            Map<String, Long> got = seen(x);
            Map<String, Long> want = seen(spared);
            for (String name2 : new String[] {"fault", "tape", "tape read"}) {
                got.remove(name2);
                want.remove(name2);
            }
            dueAlike(told, got, want);
        }
    }

    // ---- calls that only answer, and status

    private static void alone(String name, Call call) {
        for (int v = 0; v < 4; v++) {
            ClassBits spared = sceneWithFinding();
            ClassBits x = sceneWithFinding();
            call.at(x, v);
            dueAlike(name.replace("#", "" + v), seen(x), seen(spared));
        }
    }

    private static void answersAlone() {
        sentence("a call that only asks changes nothing");
        alone("bits(#)", (x, v) -> x.bits(v));
        alone("get(#, 0)", (x, v) -> x.get(v, 0));
        alone("ones(#)", (x, v) -> x.ones(v));
        alone("block(#, 0, 4)", (x, v) -> x.block(v, 0, 4));
        alone("entry(#, 0, 1)", (x, v) -> x.entry(v, 0, 1));
        alone("size(#, 3)", (x, v) -> x.size(v, 3));
        alone("payload(#, 0)", (x, v) -> x.payload(v, 0));
        alone("choose(15, #)", (x, v) -> x.choose(15, v));
        alone("offset(#)", (x, v) -> x.offset(v));
        alone("mask(#, 0)", (x, v) -> x.mask(v, 0));
        alone("rank(#, 0, 1)", (x, v) -> x.rank(v, 0, 1));
        alone("select(#, 2, 1)", (x, v) -> x.select(v, 2, 1));
        alone("next(#, 0, 1)", (x, v) -> x.next(v, 0, 1));
        alone("last(#, 0, 1)", (x, v) -> x.last(v, 0, 1));
        alone("stretches(#)", (x, v) -> x.stretches(v));
        alone("longest(#, 1, 1)", (x, v) -> x.longest(v, 1, 1));
        alone("alike(#, 0, 1)", (x, v) -> x.alike(v, 0, 1));
        alone("weight(#, 1)", (x, v) -> x.weight(v, 1));
        alone("fault()", (x, v) -> x.fault());
        alone("kind(#)", (x, v) -> x.kind(v));
        alone("as(#, 0)", (x, v) -> x.as(v, 0));
        alone("trace(#)", (x, v) -> x.trace(v));
        alone("count(#)", (x, v) -> x.count(v));
        alone("status()", (x, v) -> x.status());
        sentence("drawn: (nothing changes)");
        alone("drawn(#, 200, 999999, 0)", (x, v) -> x.drawn(v, 200, 999999, 0));
        alone("drawn(#, 199, 1, 1)", (x, v) -> x.drawn(v, 199, 1, 1));
    }

    private static void keepsStatus(String name, Call call) {
        ClassBits x = sceneWithFinding();
        call.at(x, 0);
        due("status() after " + name, x.status(), 5);
        x = scene();
        call.at(x, 0);
        due("status() after " + name, x.status(), 0);
    }

    private static void statusOfOthers() {
        sentence("status: Of the latest call with a ROW, as(), or weight(): others leave it");
        keepsStatus("feed", (x, i) -> x.feed('z'));
        keepsStatus("load", (x, i) -> x.load(0));
        keepsStatus("fault", (x, i) -> x.fault());
        keepsStatus("put", (x, i) -> x.put(0, 0, 1));
        keepsStatus("add", (x, i) -> x.add(0, 0, 1));
        keepsStatus("cut", (x, i) -> x.cut(0, 0));
        keepsStatus("join", (x, i) -> x.join(0, 0, 1, 2));
        keepsStatus("turn", (x, i) -> x.turn(0));
        keepsStatus("undo", (x, i) -> x.undo());
        keepsStatus("bits", (x, i) -> x.bits(0));
        keepsStatus("get", (x, i) -> x.get(0, 0));
        keepsStatus("ones", (x, i) -> x.ones(0));
        keepsStatus("block", (x, i) -> x.block(0, 0, 0));
        keepsStatus("entry", (x, i) -> x.entry(0, 0, 0));
        keepsStatus("size", (x, i) -> x.size(0, 0));
        keepsStatus("payload", (x, i) -> x.payload(0, 0));
        keepsStatus("choose", (x, i) -> x.choose(0, 0));
        keepsStatus("offset", (x, i) -> x.offset(0));
        keepsStatus("mask", (x, i) -> x.mask(0, 0));
        keepsStatus("rank", (x, i) -> x.rank(0, 0, 0));
        keepsStatus("select", (x, i) -> x.select(0, 0, 0));
        keepsStatus("select of none", (x, i) -> x.select(2, 0, 0));
        keepsStatus("next", (x, i) -> x.next(0, 0, 0));
        keepsStatus("last", (x, i) -> x.last(0, 0, 0));
        keepsStatus("stretches", (x, i) -> x.stretches(0));
        keepsStatus("longest", (x, i) -> x.longest(0, 0, 0));
        keepsStatus("alike", (x, i) -> x.alike(0, 0, 0));
        keepsStatus("drawn", (x, i) -> x.drawn(0, 1, 1, 0));
        keepsStatus("image", (x, i) -> x.image(0));
        keepsStatus("restore", (x, i) -> x.restore(0));
        keepsStatus("kind", (x, i) -> x.kind(0));
        keepsStatus("ask", (x, i) -> x.ask(0, 0));
        keepsStatus("trace", (x, i) -> x.trace(0));
        keepsStatus("count", (x, i) -> x.count(0));
        keepsStatus("status", (x, i) -> x.status());
    }

    private static void clearsStatus(String name, Call call) {
        ClassBits x = sceneWithFinding();
        call.at(x, 0);
        due("status() after " + name, x.status(), 0);
    }

    private static void statusOfFineCalls() {
        sentence("status: 0: it had none, or there was none");
        clearsStatus("row", (x, i) -> x.row(0, 0, 0));
        clearsStatus("set", (x, i) -> x.set(0, 0, 0));
        clearsStatus("copy", (x, i) -> x.copy(0, 0, 0, 0, 0));
        clearsStatus("drop", (x, i) -> x.drop(0));
        clearsStatus("take", (x, i) -> x.take(0, 0, 0, 0));
        clearsStatus("tell", (x, i) -> x.tell(0, 0, 0, 3));
        clearsStatus("as", (x, i) -> x.as(0, 0));
        clearsStatus("weight", (x, i) -> x.weight(2, MOST));
        due("status() of a new object", new ClassBits().status(), 0);
    }
}
