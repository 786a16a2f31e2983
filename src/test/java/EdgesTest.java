/**
 * The sentences of the document that name an edge, in its order, each by a test of its own: the
 * words in capitals first, then what single calls add. RefusalsTest has what is refused.
 */
public final class EdgesTest extends Checks {
    public static void main(String[] args) {
        lastOfItsCalls();
        numbersGoFromZero();
        firstRefusalThatFits();
        findingsAreNumbered();
        rowsAreMissingAtFirst();
        lanesOfRows();
        itemsAreZeroAtFirst();
        vectorsHaveNoBitsAtFirst();
        tapeHasSixtyBytes();
        bytesThatAreTokens();
        figuresOfNumbers();
        oneRunAtLeast();
        runsHaveOneToNinetyNineBits();
        twelveRunsAtMost();
        bitsInAllAtMost();
        runsAreOfTheLatestText();
        bitsOfRuns();
        firstTokenWithAFault();
        leastFaultOfAToken();
        faultAtTheEnd();
        faultNumbers();
        lastBlock();
        masksOfBlocks();
        classesAndOffsets();
        widthsOfClasses();
        beginsAndPayload();
        payloadBehindItsEnd();
        fourthBlocks();
        sizes();
        actsOfEachSort();
        twelveActsAtMost();
        joinedBitByBit();
        joinedOfTwoLengths();
        joinedOntoItself();
        ranks();
        selects();
        nextAndLast();
        stretches();
        longest();
        alikeInLowestTerms();
        weightsWithinAnInt();
        drawnTimes();
        kindsOfRuns();
        bodiesAndTrace();
        traceIsEmptyAhead();
        rowInPlaceOfARow();
        setLowestBits();
        copyAsTheyWereAhead();
        dropMakesMissing();
        loadEmptiesTheTape();
        latestFault();
        putTellsWhatItWas();
        addBehindTheLast();
        cutLeavesTheFirst();
        turnAll();
        takeFromARow();
        undoLatestFirst();
        tellToARow();
        imagesAreKept();
        restoreForgetsActs();
        counts();
        end();
    }

    // ---- What it is

    private static void lastOfItsCalls() {
        sentence("An object is used for at most 512 calls after it has been made");
        ClassBits x = new ClassBits();
        for (int i = 1; i <= 500; i++) {
            due("turn, call " + i, x.turn(3), 0);
        }
        for (int left = 11; left >= 0; left--) {
            due("undo, call " + (512 - left), x.undo(), left);
        }
        x = new ClassBits();
        for (int i = 1; i <= 128; i++) {
            feedAll(x, "a9;");
            due("load, call " + 4 * i, x.load(i % 4), 9);
        }
        x = new ClassBits();
        for (int i = 1; i <= 256; i++) {
            due("row, call " + (2 * i - 1), x.row(i % 8, i % 3, 40), 40);
            due("set, call " + 2 * i, x.set(i % 8, 39, i % 128), i % 128);
        }
    }

    // ---- Terms, the opening

    private static void numbersGoFromZero() {
        sentence("Numbers go from 0 on.");
        ClassBits x = new ClassBits();
        due("row 0", x.row(0, 0, 1), 1);
        due("item 0", x.set(0, 0, 1), 1);
        due("item 1 of one", x.set(0, 1, 1), PLACE);
        due("vector 0", read(x, 0, "o1;"), 1);
        due("bit 0", x.get(0, 0), 1);
        due("bit 1 of one", x.get(0, 1), BAD);
        due("block 0", x.block(0, 0, 3), 1);
        due("block 1 of one", x.block(0, 1, 3), BAD);
        due("entry 0", x.entry(0, 0, 0), 0);
        due("entry 1 of one", x.entry(0, 1, 0), BAD);
        due("run 0", x.kind(0), 2);
        due("run 1 of one", x.kind(1), BAD);
        due("its mark", x.ask(0, 1), 2);
        due("trace 0", x.trace(0), 24);
        due("the one 0", x.select(0, 0, 1), 0);
        due("image 0", x.image(0), 1);
    }

    private static void firstRefusalThatFits() {
        sentence("Refusals are answers, the first of these that fits");
        ClassBits x = new ClassBits();
        due("BAD ahead of STATE", x.restore(2), BAD);
        due("STATE", x.restore(1), STATE);
        x.add(0, 1, 480);
        due("BAD ahead of FULL", x.add(0, 1, 481), BAD);
        due("BAD ahead of FULL", x.add(0, -1, 1), BAD);
        due("FULL", x.add(0, 1, 480), FULL);
        due("BAD ahead of OVER", x.weight(4, MOST), BAD);
        due("OVER", x.weight(0, MOST), OVER);
        due("BAD ahead of SIZE", x.take(0, -1, 0, 41), BAD);
        due("SIZE ahead of NULL", x.take(0, -1, 0, 40), SIZE);
        due("NULL ahead of PLACE", x.take(0, 0, 0, 40), NULL);
        due("status of the first", x.status(), 1);
    }

    private static void findingsAreNumbered() {
        sentence("-1000010 less 1 NULL, 2 PLACE, 3 KIND, 4 SIZE, 5 STORE, 6 OVER");
        ClassBits x = new ClassBits();
        due("NULL", x.drop(0), -1000011);
        due("status", x.status(), 1);
        x.row(0, 0, 1);
        due("PLACE", x.set(0, 1, 0), -1000012);
        due("status", x.status(), 2);
        read(x, 0, "z1;");
        due("KIND", x.as(0, 2), -1000013);
        due("status", x.status(), 3);
        due("SIZE", x.row(0, 0, -1), -1000014);
        due("status", x.status(), 4);
        x.row(1, 1, 1);
        due("STORE", x.copy(0, 0, 1, 0, 1), -1000015);
        due("status", x.status(), 5);
        addAll(x, 0, "11");
        due("OVER", x.weight(0, MOST), -1000016);
        due("status", x.status(), 6);
        due("NONE", ClassBits.NONE, NONE);
        due("BAD", ClassBits.BAD, BAD);
        due("STATE", ClassBits.STATE, STATE);
        due("FULL", ClassBits.FULL, FULL);
    }

    // ---- Terms, part 1

    private static void rowsAreMissingAtFirst() {
        sentence("ROWS 0 .. 7 are missing (at first)");
        ClassBits x = new ClassBits();
        for (int r = 0; r < 8; r++) {
            due("set of row " + r, x.set(r, 0, 0), NULL);
            due("its making", x.row(r, 0, r), r);
            due("rows", x.count(0), r + 1);
        }
        for (int r = 0; r < 8; r++) {
            due("each has its own items", x.drop(r), r);
        }
        due("row -1", x.set(-1, 0, 0), BAD);
        due("row 8", x.set(8, 0, 0), BAD);
    }

    private static void lanesOfRows() {
        sentence("a LANE (0 bytes, 1 shorts, 2 ints)");
        ClassBits x = new ClassBits();
        int[] most = {127, 32767, MOST};
        int[] least = {-128, -32768, LEAST};
        for (int lane = 0; lane < 3; lane++) {
            x.row(lane, lane, 1);
            due("most of lane " + lane, x.set(lane, 0, most[lane]), most[lane]);
            due("one more", x.set(lane, 0, most[lane] + 1), least[lane]);
            due("least of lane " + lane, x.set(lane, 0, least[lane]), least[lane]);
            due("one less", x.set(lane, 0, least[lane] - 1), most[lane]);
        }
        due("lane -1", x.row(0, -1, 1), BAD);
        due("lane 3", x.row(0, 3, 1), BAD);
    }

    private static void itemsAreZeroAtFirst() {
        sentence("0 to 40 ITEMS, 0 at first");
        for (int lane = 0; lane < 3; lane++) {
            ClassBits x = new ClassBits();
            due("40 items", x.row(5, lane, 40), 40);
            due("each a place of one bit", x.take(0, 1, 5, 40), 1);
            for (int i = 0; i < 40; i++) {
                x.set(5, i, 1 + i);
            }
            due("none is 0 now", x.take(0, 41, 5, 40), 40);
            due("bit 0", x.get(0, 0), 0);
            due("a row anew", x.row(5, lane, 40), 40);
            due("each is 0 again", x.take(0, 1, 5, 40), 1);
            x.set(5, 39, 1);
            x.drop(5);
            due("a row after a missing one", x.row(5, lane, 40), 40);
            due("each is 0 again", x.take(0, 1, 5, 40), 1);
            x.set(5, 39, 1);
            due("fewer, and more again", x.row(5, lane, 3) + x.row(5, lane, 40), 43);
            due("each is 0 again", x.take(0, 1, 5, 40), 1);
            due("no items", x.row(5, lane, 0), 0);
            due("none to take", x.take(0, 1, 5, 0), 0);
            due("41 items", x.row(5, lane, 41), BAD);
            due("fewer than none", x.row(5, lane, -1), SIZE);
            due("a row of none is there", x.count(0), 1);
        }
    }

    private static void vectorsHaveNoBitsAtFirst() {
        sentence("VECTORS 0 .. 3 have 0 to 480 BITS each (none at first)");
        ClassBits x = new ClassBits();
        for (int v = 0; v < 4; v++) {
            due("bits of " + v, x.bits(v), 0);
            due("ones of " + v, x.ones(v), 0);
        }
        for (int v = 0; v < 4; v++) {
            due("479 bits", x.add(v, 1, 479), 479);
            due("two more", x.add(v, 1, 2), FULL);
            due("one more", x.add(v, 0, 1), 480);
            due("one more", x.add(v, 1, 1), FULL);
            due("bit 478", x.get(v, 478), 1);
            due("bit 479", x.get(v, 479), 0);
            due("bit 480", x.get(v, 480), BAD);
        }
        due("all of them", x.count(2), 1920);
        due("bits of -1", x.bits(-1), BAD);
        due("bits of 4", x.bits(4), BAD);
    }

    private static void tapeHasSixtyBytes() {
        sentence("THE TAPE has at most 60 bytes, that come one by one");
        ClassBits x = new ClassBits();
        for (int i = 1; i <= 60; i++) {
            due("byte " + i, x.feed("z40;".charAt((i - 1) % 4)), i);
        }
        due("one more", x.feed('z'), FULL);
        due("bytes", x.count(5), 60);
        due("its thirteenth run", x.load(0), FAULT - 48);
        due("bytes", x.count(5), 0);
        due("room again", x.feed('z'), 1);
    }

    /** Of each of the 256 bytes, what it is as the first, the second, the third of a text. */
    private static void bytesThatAreTokens() {
        sentence("TOKENS: letters a to z, NUMBERS, SIGNS , and ; nothing else, no blanks");
        for (int b = 0; b < 256; b++) {
            boolean figure = b >= '0' && b <= '9';
            boolean sort = "zotab".indexOf(b) >= 0;
            ClassBits x = new ClassBits();
            x.feed(b);
            feedAll(x, "5;");
            due("byte " + b + " as a sort", x.load(0), sort ? 5 : FAULT);
            due("its fault", x.fault(), sort ? 0 : 1);
            x = new ClassBits();
            x.feed('o');
            x.feed(b);
            x.feed(';');
            int answer = b == '0' || !figure ? FAULT - 1 : b - '0';
            due("byte " + b + " as a number", x.load(0), answer);
            due("its fault", x.fault(), b == '0' ? 2 : figure ? 0 : 1);
            x = new ClassBits();
            feedAll(x, "o3");
            x.feed(b);
            answer = b == ';' ? 3 : figure ? FAULT - 3 : FAULT - 2;
            due("byte " + b + " as a sign", x.load(0), answer);
            due("its fault", x.fault(), b == ';' ? 0 : 1);
            x = new ClassBits();
            feedAll(x, "o3;");
            x.feed(b);
            feedAll(x, "4;");
            due("byte " + b + " behind a run", x.load(0), sort ? 7 : FAULT - 3);
        }
    }

    private static int answerTo(String text) {
        return read(new ClassBits(), 0, text);
    }

    private static void figuresOfNumbers() {
        sentence("NUMBERS (figures, 2 at most)");
        due("one figure", answerTo("o9;"), 9);
        due("two figures", answerTo("o10;"), 10);
        due("two figures, the first 0", answerTo("o09;"), 9);
        due("two figures, the first 0", answerTo("o01;"), 1);
        due("three figures, at the first", answerTo("o100;"), FAULT - 1);
        due("three figures, at the first", answerTo("o001;"), FAULT - 1);
        due("three figures, at the end", answerTo("o480"), FAULT - 1);
        due("three figures, further on", answerTo("o10;z1;o010;"), FAULT - 8);
        due("four figures", answerTo("o1234;"), FAULT - 1);
        due("many figures", answerTo("o" + "1".repeat(59)), FAULT - 1);
        due("no figure", answerTo("o;"), FAULT - 1);
    }

    private static void oneRunAtLeast() {
        sentence("vector: run { run }. run: SORT N ;");
        due("no run", answerTo(""), FAULT);
        due("one run", answerTo("o1;"), 1);
        due("two runs", answerTo("o1;z2;"), 3);
        due("a sign alone", answerTo(";"), FAULT);
        due("a number first", answerTo("1o;"), FAULT);
        due("a sort twice", answerTo("oo1;"), FAULT - 1);
        due("a number twice", answerTo("o1;2;"), FAULT - 3);
        due("a sign twice", answerTo("o1;;"), FAULT - 3);
        due("the other sign", answerTo("o1,z1;"), FAULT - 2);
        due("no sign between", answerTo("o1z1;"), FAULT - 2);
        due("no sign at the end", answerTo("o1;z1"), FAULT - 5);
        due("no number at the end", answerTo("o1;z"), FAULT - 4);
    }

    private static void runsHaveOneToNinetyNineBits() {
        sentence("1 to 99: so many BITS");
        for (int n = 0; n <= 100; n++) {
            ClassBits x = new ClassBits();
            int answer = read(x, 1, "o" + n + ";");
            due("o" + n + ";", answer, n == 0 || n == 100 ? FAULT - 1 : n);
            due("its fault", x.fault(), n == 0 ? 2 : n == 100 ? 1 : 0);
            due("its ones", x.ones(1), n == 100 ? 0 : n);
        }
    }

    private static void twelveRunsAtMost() {
        sentence("RUNS 0 .. 11, 12 at most");
        ClassBits x = new ClassBits();
        due("eleven", read(x, 0, "o1;".repeat(11)), 11);
        due("runs", x.count(1), 11);
        due("run 11 of eleven", x.kind(11), BAD);
        due("twelve", read(x, 0, "o1;".repeat(12)), 12);
        due("runs", x.count(1), 12);
        due("run 11 of twelve", x.kind(11), 2);
        due("run 12 of twelve", x.kind(12), BAD);
        due("run -1", x.kind(-1), BAD);
        due("thirteen", read(x, 0, "o1;".repeat(13)), FAULT - 36);
        due("its fault", x.fault(), 3);
        due("runs", x.count(1), 12);
    }

    private static void bitsInAllAtMost() {
        sentence("480 BITS in all at most");
        ClassBits x = new ClassBits();
        due("479", read(x, 0, "o99;o99;o99;o99;o83;"), 479);
        due("480", read(x, 0, "o99;o99;o99;o99;o84;"), 480);
        due("its ones", x.ones(0), 480);
        due("481", read(x, 0, "o99;o99;o99;o99;o85;"), FAULT - 17);
        due("its fault", x.fault(), 4);
        due("480 and 1", read(x, 1, "o99;o99;o99;o99;o84;z1;"), FAULT - 21);
        due("its fault", x.fault(), 4);
        due("480 in twelve", read(x, 1, "a40;".repeat(12)), 480);
        due("481 in twelve", read(x, 1, "a40;".repeat(11) + "a41;"), FAULT - 45);
        due("480 beside another 480", x.count(2), 960);
    }

    private static void dueRuns(String when, ClassBits x, int... kinds) {
        due("runs " + when, x.count(1), kinds.length);
        for (int run = 0; run < kinds.length; run++) {
            due("kind " + run + " " + when, x.kind(run), kinds[run]);
        }
        due("kind behind them " + when, x.kind(kinds.length), BAD);
    }

    private static void runsAreOfTheLatestText() {
        sentence("RUNS are those of the latest text that was read without a FAULT (none at first)");
        ClassBits x = new ClassBits();
        dueRuns("at first", x);
        read(x, 0, "z");
        dueRuns("after a fault", x);
        read(x, 0, "a5;b6;");
        dueRuns("after a text", x, 4, 5);
        read(x, 0, "t5;t6;t7;x");
        dueRuns("after a text with a fault", x, 4, 5);
        due("their bits", x.ask(1, 0), 2 * (6 - 100));
        read(x, 9, "t5;");
        dueRuns("after a text that was not read", x, 4, 5);
        x.load(3);
        dueRuns("after a text for another vector", x, 3);
        due("undo", x.undo(), 1);
        dueRuns("after its undoing", x, 3);
        due("undo", x.undo(), 0);
        dueRuns("after all undoing", x, 3);
        x.image(0);
        read(x, 0, "z1;o1;");
        dueRuns("after one more", x, 1, 2);
        x.restore(0);
        dueRuns("after a restore", x, 1, 2);
        x.cut(0, 0);
        x.turn(0);
        dueRuns("after other acts", x, 1, 2);
    }

    private static void bitsOfRuns() {
        sentence("BIT j of a RUN (0 its first)");
        String[] due = {"0".repeat(99), "1".repeat(99), "100".repeat(33), "10".repeat(49) + "1",
            "11110000".repeat(12) + "111"};
        for (int sort = 0; sort < 5; sort++) {
            for (int n = 1; n <= 99; n++) {
                ClassBits x = new ClassBits();
                due("bits", read(x, 2, "zotab".charAt(sort) + "" + n + ";"), n);
                dueBits(x, 2, due[sort].substring(0, n));
            }
        }
        ClassBits x = new ClassBits();
        read(x, 0, "t2;t4;a1;a3;b5;b1;z1;o1;");
        dueBits(x, 0, "10" + "1001" + "1" + "101" + "11110" + "1" + "0" + "1");
    }

    private static void dueFault(String text, int place, int number) {
        ClassBits x = new ClassBits();
        due("load of " + text, read(x, 0, text), FAULT - place);
        due("fault of " + text, x.fault(), number);
    }

    private static void firstTokenWithAFault() {
        sentence("FAULTS, the first TOKEN that has one (its first byte)");
        dueFault("z0,", 1, 2);
        dueFault("z00,", 1, 2);
        dueFault("z0", 1, 2);
        dueFault("z10,z0;", 3, 1);
        dueFault("z1;o00;o000;", 4, 2);
        dueFault("z1;o000;o00;", 4, 1);
        dueFault("z99;z99;z99;z99;z99;0", 17, 4);
        dueFault("z99;z99;z99;z99;z99", 17, 4);
        dueFault("z1;".repeat(12) + "z0;", 36, 3);
        dueFault("z40;".repeat(12) + "z99;", 48, 3);
        dueFault("z40;".repeat(11) + "z41;z1;", 45, 4);
    }

    private static void leastFaultOfAToken() {
        sentence("FAULTS, of one TOKEN the least");
        dueFault("z1;".repeat(12) + "y1;", 36, 1);
        dueFault("z1;".repeat(12) + "7", 36, 1);
        dueFault("z1;".repeat(12) + ",", 36, 1);
        dueFault("z99;z99;z99;z99;z84;z100;", 21, 1);
        dueFault("z99;z99;z99;z99;z84;z0;", 21, 2);
        dueFault("z99;z99;z99;z99;z84;00", 20, 1);
    }

    private static void faultAtTheEnd() {
        sentence("FAULT 1: the end: how many bytes there are");
        dueFault("", 0, 1);
        dueFault("z", 1, 1);
        dueFault("z1", 2, 1);
        dueFault("z12", 3, 1);
        dueFault("z1;z", 4, 1);
        dueFault("z40;".repeat(11) + "z", 45, 1);
        dueFault("z40;".repeat(11) + "z4", 46, 1);
        dueFault("z40;".repeat(11) + "z40", 47, 1);
    }

    private static void faultNumbers() {
        sentence("FAULTS 1, 2, 3, 4");
        dueFault("k1;", 0, 1);
        dueFault("a0;", 1, 2);
        dueFault("b1;".repeat(13), 36, 3);
        dueFault("t96;t96;t96;t96;t97;", 17, 4);
        due("none", answerTo("t96;t96;t96;t96;t96;"), 480);
    }

    // ---- Terms, part 2

    private static void lastBlock() {
        sentence("BLOCKS: 15 BITS each, the last one with zeros behind the end (no BITS: no BLOCK)");
        int[] bits = {0, 1, 14, 15, 16, 29, 30, 31, 465, 466, 479, 480};
        for (int n : bits) {
            ClassBits x = new ClassBits();
            x.add(1, 1, 480);
            x.cut(1, n);
            int blocks = (n + 14) / 15;
            for (int b = 0; b < blocks; b++) {
                int there = Math.min(15, n - 15 * b);
                due("mask of block " + b + " of " + n, x.block(1, b, 3), (1 << there) - 1);
            }
            due("one more of " + n, x.block(1, blocks, 3), BAD);
            due("block -1 of " + n, x.block(1, -1, 3), BAD);
            due("its plain size", x.size(1, 4), 15 * blocks);
        }
        zerosBehindTheEnd();
    }

    /** Each act that could leave ones there, on 480 ones or zeros. */
    private static void zerosBehindTheEnd() {
        for (int n = 1; n <= 31; n++) {
            ClassBits x = new ClassBits();
            int last = (n - 1) / 15;
            int there = (1 << n - 15 * last) - 1;
            x.add(0, 1, 480);
            x.add(1, 0, n);
            x.turn(1);
            due("turned " + n, x.block(1, last, 3), there);
            x.cut(0, n);
            due("cut to " + n, x.block(0, last, 3), there);
            x.undo();
            x.undo();
            due("undone", x.block(1, last, 3), 0);
            x.join(3, 0, 1, 0);
            x.cut(0, n);
            due("joined and cut to " + n, x.block(0, last, 3), there);
            x.add(0, 0, 480 - n);
            due("zeros behind " + n, x.ones(0), n);
        }
    }

    private static void masksOfBlocks() {
        sentence("MASK of a BLOCK: the first worth 1, the next 2, and so on");
        for (int place = 0; place < 30; place++) {
            ClassBits x = new ClassBits();
            x.add(0, 0, 30);
            x.put(0, place, 1);
            due("one at " + place, x.block(0, place / 15, 3), 1 << place % 15);
            due("the other block", x.block(0, 1 - place / 15, 3), 0);
        }
    }

    private static void classesAndOffsets() {
        sentence("CLASS: how many ones (0 to 15). OFFSET: how many numbers less have as many ones");
        int[] many = {1, 15, 105, 455, 1365, 3003, 5005, 6435, 6435, 5005, 3003, 1365, 455, 105,
            15, 1};
        for (int sort = 0; sort <= 15; sort++) {
            ClassBits x = new ClassBits();
            addAll(x, 0, "1".repeat(sort) + "0".repeat(15 - sort));
            due("class", x.block(0, 0, 0), sort);
            due("the least offset", x.block(0, 0, 1), 0);
            addAll(x, 1, "0".repeat(15 - sort) + "1".repeat(sort));
            due("class", x.block(1, 0, 0), sort);
            due("the greatest offset", x.block(1, 0, 1), many[sort] - 1);
            int greatest = x.block(1, 0, 3);
            due("offset()", x.offset(greatest), many[sort] - 1);
            due("mask()", x.mask(sort, many[sort] - 1), greatest);
            due("one more", x.mask(sort, many[sort]), BAD);
            due("one less", x.mask(sort, -1), BAD);
            due("choose()", x.choose(15, sort), many[sort]);
        }
        everyMask();
        masksWithSomeOnes();
    }

    private static void everyMask() {
        int[] seen = new int[16];
        ClassBits x = new ClassBits();
        for (int mask = 0; mask <= 32767; mask++) {
            if (mask % 256 == 0) {
                x = new ClassBits();
            }
            int sort = Integer.bitCount(mask);
            due("offset of " + mask, x.offset(mask), seen[sort]);
            due("mask " + mask, x.mask(sort, seen[sort]), mask);
            seen[sort]++;
        }
    }

    private static void masksWithSomeOnes() {
        sentence("choose: How many MASKS have k ones of n (0, if k is above n)");
        for (int n = 0; n <= 15; n++) {
            int[] many = new int[16];
            for (int mask = 0; mask < 1 << n; mask++) {
                many[Integer.bitCount(mask)]++;
            }
            ClassBits x = new ClassBits();
            for (int k = 0; k <= 15; k++) {
                due("choose " + k + " of " + n, x.choose(n, k), many[k]);
            }
        }
    }

    private static void widthsOfClasses() {
        sentence("WIDTH: the fewest bits in which all OFFSETS of that CLASS can be written");
        for (int sort = 0; sort <= 15; sort++) {
            ClassBits x = new ClassBits();
            addAll(x, 0, "0".repeat(15 - sort) + "1".repeat(sort));
            int greatest = x.choose(15, sort) - 1;
            int width = x.block(0, 0, 2);
            due("the greatest is written in " + width, greatest >> width, 0);
            due("not in one fewer", width == 0 || greatest >> width - 1 == 1 ? 1 : 0, 1);
            due("0 of class 0 and 15 alone", width == 0 ? 1 : 0, sort % 15 == 0 ? 1 : 0);
            due("payload", x.size(0, 0), width);
        }
    }

    private static void beginsAndPayload() {
        sentence("PAYLOAD: one behind the other, each in its WIDTH; BEGIN; its bit worth 1 first");
        ClassBits x = with("1".repeat(15) + "0".repeat(14) + "1" + "0".repeat(15)
                + "1" + "0".repeat(13) + "1" + "01");
        int[] begins = {0, 0, 4, 4, 11};
        int[] widths = {0, 4, 0, 7, 4};
        int[] offsets = {0, 14, 0, 91, 1};
        for (int b = 0; b < 5; b++) {
            due("begin of " + b, x.block(0, b, 4), begins[b]);
            due("width of " + b, x.block(0, b, 2), widths[b]);
            due("offset of " + b, x.block(0, b, 1), offsets[b]);
        }
        due("payload", x.payload(0, 0), 14 | 91 << 4 | 1 << 11);
        due("its bits", x.size(0, 0), 15);
    }

    private static void payloadBehindItsEnd() {
        sentence("payload: 64 bits from 64 times k on (zeros behind its end)");
        ClassBits x = new ClassBits();
        for (int k = 0; k <= 6; k++) {
            due("no bits, " + k, x.payload(0, k), 0);
        }
        due("no bits, 7", x.payload(0, 7), BAD);
        due("no bits, -1", x.payload(0, -1), BAD);
        for (int fours = 0; fours <= 17; fours++) {
            for (int sevens = 0; sevens <= 3; sevens++) {
                for (int thirteens = 0; thirteens <= 2; thirteens++) {
                    duePayload(fours, sevens, thirteens);
                }
            }
        }
        duePayload(1, 0, 31);
        duePayload(0, 0, 32);
    }

    /** So many blocks of WIDTH 4, 7, 13, each with the greatest OFFSET: every place in a word. */
    private static void duePayload(int fours, int sevens, int thirteens) {
        ClassBits x = new ClassBits();
        boolean[] bits = new boolean[448];
        int begin = 0;
        for (int b = 0; b < fours + sevens + thirteens; b++) {
            int ones = b < fours ? 1 : b < fours + sevens ? 2 : 8;
            int width = ones == 1 ? 4 : ones == 2 ? 7 : 13;
            int offset = ones == 1 ? 14 : ones == 2 ? 104 : 6434;
            x.add(0, 0, 15 - ones);
            x.add(0, 1, ones);
            due("begin of " + b, x.block(0, b, 4), begin);
            for (int i = 0; i < width; i++) {
                bits[begin + i] = (offset >> i & 1) == 1;
            }
            begin += width;
        }
        String blocks = fours + " of 4, " + sevens + " of 7, " + thirteens + " of 13";
        for (int k = 0; k <= 6; k++) {
            long word = 0;
            for (int i = 0; i < 64; i++) {
                word |= bits[64 * k + i] ? 1L << i : 0;
            }
            due("word " + k + " of " + blocks, x.payload(0, k), word);
        }
        due("size of " + blocks, x.size(0, 0), begin);
    }

    private static void fourthBlocks() {
        sentence("DIRECTORY: for each fourth BLOCK (0, 4, ..) an ENTRY");
        int[] bits = {0, 1, 59, 60, 61, 120, 121, 420, 421, 480};
        int[] entries = {0, 1, 1, 1, 2, 2, 3, 7, 8, 8};
        for (int i = 0; i < bits.length; i++) {
            ClassBits x = new ClassBits();
            x.add(2, 0, 480);
            for (int place = 14; place < 480; place += 15) {
                x.put(2, place, 1);
            }
            x.cut(2, bits[i]);
            for (int e = 0; e < entries[i]; e++) {
                due("ones ahead", x.entry(2, e, 0), 4 * e);
                due("its begin", x.entry(2, e, 1), 16 * e);
            }
            due("one more", x.entry(2, entries[i], 0), BAD);
            due("-1", x.entry(2, -1, 0), BAD);
            due("its size", x.size(2, 2), 18 * entries[i]);
        }
    }

    private static void dueSizes(int n, int payload, int classes, int directory, int plain) {
        ClassBits x = new ClassBits();
        if (n > 0) {
            x.add(3, 0, n);
            x.put(3, n - 1, 1);
        }
        int[] due = {payload, classes, directory, payload + classes + directory, plain};
        for (int what = 0; what < 5; what++) {
            due("size " + what + " of " + n, x.size(3, what), due[what]);
        }
        due("size 5 of " + n, x.size(3, 5), BAD);
        due("size -1 of " + n, x.size(3, -1), BAD);
    }

    private static void sizes() {
        sentence("SIZES of a VECTOR, in bits");
        dueSizes(0, 0, 0, 0, 0);
        dueSizes(1, 4, 4, 18, 15);
        dueSizes(15, 4, 4, 18, 15);
        dueSizes(16, 4, 8, 18, 30);
        dueSizes(60, 4, 16, 18, 60);
        dueSizes(61, 4, 20, 36, 75);
        dueSizes(480, 4, 128, 144, 480);
    }

    private static void actsOfEachSort() {
        sentence("ACTS: read; put; added; cut off; joined; turned; taken; each can be undone");
        ClassBits x = new ClassBits();
        String[] was = new String[7];
        x.row(0, 0, 1);
        for (int act = 0; act < 7; act++) {
            was[act] = told(x, 0) + "/" + told(x, 1);
            switch (act) {
                case 0 -> due("read", read(x, 0, "o3;z2;"), 5);
                case 1 -> due("put", x.put(0, 1, 0), 1);
                case 2 -> due("added", x.add(0, 1, 4), 9);
                case 3 -> due("cut off", x.cut(0, 6), 9);
                case 4 -> due("joined", x.join(1, 0, 1, 1), 3);
                case 5 -> due("turned", x.turn(1), 3);
                default -> due("taken", x.take(0, 2, 0, 1), 1);
            }
            due("acts", x.count(4), act + 1);
        }
        for (int act = 6; act >= 0; act--) {
            due("undo", x.undo(), act);
            String is = told(x, 0) + "/" + told(x, 1);
            if (!is.equals(was[act])) {
                fail("undone is " + is + ", due is " + was[act]);
            }
        }
        due("none", x.undo(), STATE);
        sentence("ACTS: nothing else is one");
        x.row(1, 0, 1);
        x.image(0);
        x.restore(0);
        x.tell(0, 0, 1, 0);
        x.drawn(0, 1, 1, 0);
        x.feed('z');
        x.load(0);
        x.undo();
        due("acts", x.count(4), 0);
        sentence("ACTS: an act that leaves all as it is can be undone, too");
        x.add(0, 1, 2);
        x.put(0, 0, 1);
        x.cut(0, 2);
        x.join(1, 0, 0, 0);
        x.turn(3);
        x.take(3, 0, 0, 0);
        due("acts", x.count(4), 6);
    }

    private static void twelveActsAtMost() {
        sentence("12 at most are kept, of more the oldest is forgotten");
        for (int acts = 11; acts <= 40; acts++) {
            ClassBits x = new ClassBits();
            for (int i = 0; i < acts; i++) {
                x.add(i % 3, 1, 1);
            }
            int kept = Math.min(acts, 12);
            due("acts of " + acts, x.count(4), kept);
            for (int left = kept - 1; left >= 0; left--) {
                due("undo of " + acts, x.undo(), left);
                due("bits then", x.count(2), acts - kept + left);
            }
            due("one more of " + acts, x.undo(), STATE);
            due("bits then", x.count(2), acts - kept);
        }
        sentence("12 at most are kept: what is undone makes room");
        ClassBits x = new ClassBits();
        for (int i = 0; i < 12; i++) {
            x.add(0, 1, 1);
        }
        due("undo", x.undo(), 11);
        x.add(1, 1, 1);
        due("acts", x.count(4), 12);
        for (int left = 11; left >= 0; left--) {
            due("undo", x.undo(), left);
        }
        due("all is undone", x.count(2), 0);
    }

    private static void joinedBitByBit() {
        sentence("JOINED: 0 both; 1 any; 2 just one; 3 a, but not b");
        String[] due = {"0001", "0111", "0110", "0010"};
        for (int how = 0; how < 4; how++) {
            ClassBits x = with("0011", "0101", "1111111");
            int ones = (int) due[how].chars().filter(c -> c == '1').count();
            due("join " + how, x.join(how, 0, 1, 2), ones);
            dueBits(x, 2, due[how]);
            dueBits(x, 0, "0011");
            dueBits(x, 1, "0101");
        }
    }

    private static void joinedOfTwoLengths() {
        sentence("JOINED: as many BITS as the longer one, the shorter one as if zeros were behind");
        String one = "1".repeat(31);
        String two = "1".repeat(14);
        String[] ahead = {"1", "1", "0", "0"};
        String[] behind = {"0", "1", "1", "1"};
        for (int how = 0; how < 4; how++) {
            ClassBits x = with(one, two, "1".repeat(480));
            x.join(how, 0, 1, 2);
            dueBits(x, 2, ahead[how].repeat(14) + behind[how].repeat(17));
            x.join(how, 1, 0, 2);
            String last = how == 3 ? "0" : behind[how];
            dueBits(x, 2, ahead[how].repeat(14) + last.repeat(17));
            x.join(how, 3, 0, 2);
            dueBits(x, 2, last.repeat(31));
            x.join(how, 3, 3, 2);
            dueBits(x, 2, "");
        }
        ClassBits x = new ClassBits();
        x.add(0, 1, 480);
        due("480 and none", x.join(1, 0, 3, 2), 480);
        due("its bits", x.bits(2), 480);
        due("none and 480", x.join(3, 3, 0, 2), 0);
        due("its bits", x.bits(2), 480);
    }

    private static void joinedOntoItself() {
        sentence("JOINED: (c may be a or b)");
        String[] due = {"00010", "01111", "01101", "00101"};
        String[] other = {"00010", "01111", "01101", "01000"};
        for (int how = 0; how < 4; how++) {
            ClassBits x = with("00111", "0101");
            x.join(how, 0, 1, 0);
            dueBits(x, 0, due[how]);
            dueBits(x, 1, "0101");
            x = with("00111", "0101");
            x.join(how, 0, 1, 1);
            dueBits(x, 1, due[how]);
            dueBits(x, 0, "00111");
            x.undo();
            dueBits(x, 1, "0101");
            x.join(how, 1, 0, 1);
            dueBits(x, 1, other[how]);
            x.undo();
            x.join(how, 1, 0, 0);
            dueBits(x, 0, other[how]);
            x.undo();
            x.join(how, 0, 0, 0);
            dueBits(x, 0, how < 2 ? "00111" : "00000");
        }
    }

    // ---- Terms, part 3

    private static void ranks() {
        sentence("RANK: how many such BITS lie ahead of it");
        ClassBits x = with("1".repeat(15) + "0" + "1".repeat(14) + "0");
        int[] places = {0, 1, 14, 15, 16, 17, 30, 31};
        int[] ones = {0, 1, 14, 15, 15, 16, 29, 29};
        for (int i = 0; i < places.length; i++) {
            due("ones ahead of " + places[i], x.rank(0, places[i], 1), ones[i]);
            due("zeros", x.rank(0, places[i], 0), places[i] - ones[i]);
        }
        due("beyond", x.rank(0, 32, 1), BAD);
        due("of no bits", x.rank(1, 0, 1), 0);
        due("of no bits", x.rank(1, 0, 0), 0);
        due("of no bits, beyond", x.rank(1, 1, 0), BAD);
        x.add(2, 1, 480);
        due("of 480", x.rank(2, 480, 1), 480);
        due("of 480, zeros", x.rank(2, 480, 0), 0);
        due("beyond 480", x.rank(2, 481, 0), BAD);
    }

    private static void selects() {
        sentence("SELECT: the place of the k-th one (0 the first); NONE");
        ClassBits x = with("0".repeat(14) + "11" + "0".repeat(463) + "1");
        due("the first one", x.select(0, 0, 1), 14);
        due("the next one", x.select(0, 1, 1), 15);
        due("the last one", x.select(0, 2, 1), 479);
        due("one more", x.select(0, 3, 1), NONE);
        due("the first zero", x.select(0, 0, 0), 0);
        due("zero 13", x.select(0, 13, 0), 13);
        due("zero 14", x.select(0, 14, 0), 16);
        due("the last zero", x.select(0, 476, 0), 478);
        due("one more", x.select(0, 477, 0), NONE);
        due("most", x.select(0, MOST, 0), NONE);
        due("of no bits", x.select(1, 0, 1), NONE);
        due("of no bits, zeros", x.select(1, 0, 0), NONE);
        x.add(2, 1, 7);
        due("zeros behind the end are none", x.select(2, 0, 0), NONE);
    }

    private static void nextAndLast() {
        sentence("NEXT from a place on (it, too); NONE");
        ClassBits x = with("0110" + "0".repeat(12) + "1");
        due("from 0", x.next(0, 0, 1), 1);
        due("it, too", x.next(0, 1, 1), 1);
        due("it, too", x.next(0, 2, 1), 2);
        due("behind it", x.next(0, 3, 1), 16);
        due("the last", x.next(0, 16, 1), 16);
        due("no zero", x.next(0, 16, 0), NONE);
        due("at the end", x.next(0, 17, 1), NONE);
        due("at the end, zeros behind it are none", x.next(0, 17, 0), NONE);
        due("beyond", x.next(0, 18, 1), BAD);
        due("of no bits", x.next(1, 0, 0), NONE);
        sentence("LAST ahead of a place; NONE");
        due("ahead of the end", x.last(0, 17, 1), 16);
        due("not it", x.last(0, 16, 1), 2);
        due("ahead of 2", x.last(0, 2, 1), 1);
        due("not it", x.last(0, 1, 1), NONE);
        due("zero 0", x.last(0, 1, 0), 0);
        due("ahead of 0", x.last(0, 0, 0), NONE);
        due("beyond", x.last(0, 18, 1), BAD);
        due("of no bits", x.last(1, 0, 0), NONE);
    }

    private static void stretches() {
        sentence("STRETCHES: how many rows of like BITS there are (0: no BITS)");
        due("no bits", with("").stretches(0), 0);
        due("a zero", with("0").stretches(0), 1);
        due("a one", with("1").stretches(0), 1);
        due("two alike", with("00").stretches(0), 1);
        due("two unlike", with("01").stretches(0), 2);
        due("across blocks", with("1".repeat(16)).stretches(0), 1);
        due("at a block's end", with("1".repeat(15) + "0").stretches(0), 2);
        ClassBits x = new ClassBits();
        read(x, 0, "a40;".repeat(12));
        due("480", x.stretches(0), 480);
    }

    private static void dueLongest(String bits, int value, int length, int place) {
        ClassBits x = with("1", bits);
        due("length of " + value + " in " + bits, x.longest(1, value, 0), length);
        due("place of " + value + " in " + bits, x.longest(1, value, 1), place);
    }

    private static void longest() {
        sentence("LONGEST: (0: none), its place; NONE");
        dueLongest("", 0, 0, NONE);
        dueLongest("", 1, 0, NONE);
        dueLongest("000", 1, 0, NONE);
        dueLongest("111", 0, 0, NONE);
        dueLongest("0", 0, 1, 0);
        dueLongest("1".repeat(480), 1, 480, 0);
        dueLongest("1".repeat(480), 0, 0, NONE);
        dueLongest("0" + "1".repeat(16), 1, 16, 1);
        sentence("LONGEST: of several the first");
        dueLongest("0110110", 1, 2, 1);
        dueLongest("0110110", 0, 1, 0);
        dueLongest("01101110", 1, 3, 4);
        dueLongest("0011001", 0, 2, 0);
    }

    private static void dueAlike(String a, String b, int above, int below) {
        ClassBits x = with(a, "1", b);
        due("above of " + a + " " + b, x.alike(0, 2, 0), above);
        due("below of " + a + " " + b, x.alike(0, 2, 1), below);
        due("above, the other way", x.alike(2, 0, 0), above);
        due("below, the other way", x.alike(2, 0, 1), below);
    }

    private static void alikeInLowestTerms() {
        sentence("ALIKE: a fraction (0 by 1, if there are none)");
        dueAlike("", "", 0, 1);
        dueAlike("000", "00", 0, 1);
        dueAlike("000", "11", 0, 1);
        dueAlike("110", "001", 0, 1);
        sentence("fractions, told as two numbers in lowest terms");
        dueAlike("1", "1", 1, 1);
        dueAlike("1".repeat(480), "1".repeat(480), 1, 1);
        dueAlike("1".repeat(480), "1".repeat(479), 479, 480);
        dueAlike("1".repeat(480), "1", 1, 480);
        dueAlike("1".repeat(360), "1".repeat(144), 2, 5);
        dueAlike("1100", "111111", 1, 3);
        dueAlike("111111000", "001111111", 4, 9);
        dueAlike("11111", "0111", 3, 5);
    }

    private static void weightsWithinAnInt() {
        sentence("WEIGHT: each product exact, else OVER");
        ClassBits x = with("0".repeat(479) + "1", "01", "11", "1");
        due("480 times 4473924", x.weight(0, 4473924), 2147483520);
        due("480 times 4473925", x.weight(0, 4473925), OVER);
        due("480 times -4473924", x.weight(0, -4473924), -2147483520);
        due("480 times -4473925", x.weight(0, -4473925), OVER);
        due("480 times most", x.weight(0, MOST), OVER);
        due("480 times least", x.weight(0, LEAST), OVER);
        due("twice 1073741823", x.weight(1, 1073741823), 2147483646);
        due("twice 1073741824", x.weight(1, 1073741824), OVER);
        due("twice -1073741824, the least int", x.weight(1, -1073741824), LEAST);
        due("twice -1073741825", x.weight(1, -1073741825), OVER);
        due("once most", x.weight(3, MOST), MOST);
        due("once least", x.weight(3, LEAST), LEAST);
        sentence("WEIGHT: each sum exact, else OVER");
        due("once and twice", x.weight(2, 715827882), 2147483646);
        due("once and twice, beyond", x.weight(2, 715827883), OVER);
        due("below", x.weight(2, -715827882), -2147483646);
        due("below, beyond", x.weight(2, -715827883), OVER);
        due("beyond twice", x.weight(2, 1431655766), OVER);
        ClassBits full = new ClassBits();
        full.add(0, 1, 480);
        due("480 ones", full.weight(0, 18602), 2147414880);
        due("480 ones, beyond", full.weight(0, 18603), OVER);
        due("480 ones, below", full.weight(0, -18602), -2147414880);
        due("480 ones, beyond", full.weight(0, -18603), OVER);
        due("480 ones, by 0", full.weight(0, 0), 0);
        due("no bits", full.weight(1, LEAST), 0);
        full.add(2, 0, 480);
        due("no ones", full.weight(2, MOST), 0);
    }

    private static void drawnTimes() {
        sentence("DRAWN: n times (0 to 200) by a SEED (X at first)");
        ClassBits x = with("", "0", "0".repeat(480), "1".repeat(16));
        due("0 times", x.drawn(3, 0, 1, 0), 16);
        due("0 times, its payload", x.drawn(3, 0, 1, 1), 4);
        due("199 times the one bit", x.drawn(1, 199, 1, 0), 1);
        due("200 times the one bit", x.drawn(1, 200, 1, 0), 0);
        due("once, its payload", x.drawn(1, 1, 1, 1), 4);
        dueDrawn(x, 480, 1);
        dueDrawn(x, 480, 999999);
        dueDrawn(x, 480, 127773);
        due("201 times", x.drawn(2, 201, 1, 0), BAD);
        due("-1 times", x.drawn(2, -1, 1, 0), BAD);
        due("seed 0", x.drawn(2, 1, 0, 0), BAD);
        due("seed 1000000", x.drawn(2, 1, 1000000, 0), BAD);
        sentence("DRAWN: (nothing of no BITS)");
        due("ones", x.drawn(0, 200, 1, 0), 0);
        due("payload", x.drawn(0, 200, 1, 1), 0);
        due("ones, 0 times", x.drawn(0, 0, 1, 0), 0);
        sentence("DRAWN: (nothing changes)");
        due("ones", x.count(3), 16);
        due("drawn again", x.drawn(1, 1, 1, 0), 1);
    }

    private static void dueDrawn(ClassBits x, int many, int seed) {
        boolean[] turned = new boolean[many];
        long number = seed;
        for (int i = 0; i < 200; i++) {
            number = number * 16807 % 2147483647;
            turned[(int) (number % many)] ^= true;
        }
        int ones = 0;
        for (boolean bit : turned) {
            ones += bit ? 1 : 0;
        }
        due("200 times by " + seed, x.drawn(2, 200, seed, 0), ones);
        int[] widths = {0, 4, 7, 9, 11, 12, 13, 13, 13, 13, 12, 11, 9, 7, 4, 0};
        int payload = 0;
        for (int block = 0; block < many / 15; block++) {
            int sort = 0;
            for (int i = 0; i < 15; i++) {
                sort += turned[15 * block + i] ? 1 : 0;
            }
            payload += widths[sort];
        }
        due("its payload", x.drawn(2, 200, seed, 1), payload);
    }

    private static void kindsOfRuns() {
        sentence("KINDS of RUNS: 0 RUN; 1 ZEROS; 2 ONES; 3 THIRDS; 4 ALTERNATE; 5 BURSTS");
        String[] are = {"01", "012", "013", "04", "045"};
        ClassBits x = new ClassBits();
        read(x, 0, "z1;o1;t1;a1;b1;");
        for (int run = 0; run < 5; run++) {
            due("kind " + run, x.kind(run), run + 1);
            for (int kind = -1; kind <= 6; kind++) {
                boolean is = are[run].indexOf('0' + kind) >= 0;
                int answer = kind < 0 || kind > 5 ? BAD : is ? run : KIND;
                due("as " + run + " " + kind, x.as(run, kind), answer);
            }
        }
    }

    // ---- Terms, part 4

    private static void dueAsk(ClassBits x, int run, int what, int answer, int... bodies) {
        due("ask " + run + " " + what, x.ask(run, what), answer);
        for (int i = 0; i < 17; i++) {
            int body = i < bodies.length ? bodies[i] : NONE;
            due("trace " + i + " of " + run + " " + what, x.trace(i), body);
        }
        due("trace -1", x.trace(-1), NONE);
    }

    private static void bodiesAndTrace() {
        sentence("each leaves its number in THE TRACE as it begins (the first 16)");
        int[] numbers = {1, 96};
        for (int n : numbers) {
            ClassBits x = new ClassBits();
            read(x, 0, "z#;o#;t#;a#;b#;".replace("#", "" + n));
            int thirds = (n + 2) / 3;
            dueAsk(x, 0, 0, n, 11, 10, 21, 20);
            dueAsk(x, 0, 1, 0, 21, 20);
            dueAsk(x, 1, 0, -(n + 2 * (1 + n)), 12, 11, 10, 24, 21, 20);
            dueAsk(x, 1, 1, 2 * (1 + n), 24, 21, 20);
            dueAsk(x, 2, 0, n + 2 + thirds - 1000, 11, 10, 22, 21, 20);
            dueAsk(x, 2, 1, 2 + thirds - 1000, 22, 21, 20);
            dueAsk(x, 3, 0, n - 100, 13, 10);
            dueAsk(x, 3, 1, 3 - (n - 100), 23, 20, 13, 10);
            dueAsk(x, 4, 0, 2 * (n - 100), 14, 13, 10);
            dueAsk(x, 4, 1, 4 - 2 * (n - 100), 23, 20, 14, 13, 10);
        }
        sentence("how many ones it has: the RUN, whatever becomes of the VECTOR");
        ClassBits x = new ClassBits();
        read(x, 0, "z9;o9;");
        x.turn(0);
        due("mark of zeros", x.ask(0, 1), 0);
        due("mark of ones", x.ask(1, 1), 20);
        x.cut(0, 0);
        due("mark of ones", x.ask(1, 1), 20);
    }

    private static void traceIsEmptyAhead() {
        sentence("ask: THE TRACE is empty ahead of it");
        ClassBits x = new ClassBits();
        due("before any ask", x.trace(0), NONE);
        read(x, 0, "z5;o5;");
        due("a text is no ask", x.trace(0), NONE);
        dueAsk(x, 1, 0, -(5 + 2 * 6), 12, 11, 10, 24, 21, 20);
        dueAsk(x, 0, 1, 0, 21, 20);
        sentence("What is refused changes nothing: THE TRACE stays");
        due("run 2", x.ask(2, 0), BAD);
        due("run -1", x.ask(-1, 0), BAD);
        due("what 2", x.ask(0, 2), BAD);
        due("what -1", x.ask(0, -1), BAD);
        due("trace 0", x.trace(0), 21);
        due("trace 1", x.trace(1), 20);
        due("trace 2", x.trace(2), NONE);
        read(x, 0, "b5;");
        due("another text leaves it", x.trace(0), 21);
        sentence("Number i of THE TRACE; NONE.");
        due("trace -1", x.trace(-1), NONE);
        due("trace 15", x.trace(15), NONE);
        due("trace 16", x.trace(16), NONE);
        due("trace least", x.trace(LEAST), NONE);
        due("trace most", x.trace(MOST), NONE);
    }

    // ---- what single calls add

    private static void rowInPlaceOfARow() {
        sentence("row: in place of what is there: n");
        ClassBits x = new ClassBits();
        x.row(6, 2, 40);
        x.set(6, 0, 70000);
        due("shorter, of bytes", x.row(6, 0, 1), 1);
        due("its item 1", x.set(6, 1, 1), PLACE);
        due("a byte", x.set(6, 0, 300), 44);
        due("longer, of shorts", x.row(6, 1, 2), 2);
        due("a short", x.set(6, 1, 70000), 4464);
        due("rows", x.count(0), 1);
    }

    private static void setLowestBits() {
        sentence("set: v, its lowest bits, as many as the LANE has: what it is then");
        ClassBits x = new ClassBits();
        for (int lane = 0; lane < 3; lane++) {
            x.row(lane, lane, 40);
        }
        int[] given = {255, 256, -1, -129, 65535, 65536, -32769, LEAST, MOST, 0x12348180};
        for (int v : given) {
            due("byte of " + v, x.set(0, 39, v), (byte) v);
            due("short of " + v, x.set(1, 39, v), (short) v);
            due("int of " + v, x.set(2, 39, v), v);
        }
        due("the last item", x.set(0, 40, 1), PLACE);
        x.set(0, 0, 256 + 7);
        due("it is kept so", x.take(0, 8, 0, 1), 1);
        due("bit 7", x.get(0, 7), 1);
    }

    /** The items, one by one, each a place below 480; it uses row 7 and vector 3. */
    private static void dueItems(ClassBits x, int row, int lane, int... items) {
        for (int i = 0; i < items.length; i++) {
            x.row(7, lane, 1);
            x.copy(row, i, 7, 0, 1);
            x.take(3, 480, 7, 1);
            due("item " + i + " of row " + row, x.select(3, 0, 1), items[i]);
        }
        due("no more", x.copy(row, items.length, 7, 0, 1), PLACE);
    }

    private static void copyAsTheyWereAhead() {
        sentence("copy: as they were ahead");
        int[][] due = {{1, 1, 2, 3}, {2, 3, 4, 4}, {1, 2, 3, 4}};
        int[][] calls = {{0, 1, 3}, {1, 0, 3}, {0, 0, 4}};
        for (int c = 0; c < 3; c++) {
            ClassBits x = new ClassBits();
            x.row(0, 1, 4);
            for (int i = 0; i < 4; i++) {
                x.set(0, i, 1 + i);
            }
            due("copy", x.copy(0, calls[c][0], 0, calls[c][1], calls[c][2]), calls[c][2]);
            dueItems(x, 0, 1, due[c]);
        }
        sentence("copy: n ITEMS of a from i on come to b from j on");
        ClassBits x = new ClassBits();
        x.row(0, 2, 40);
        x.row(1, 2, 40);
        x.set(0, 0, 5);
        x.set(0, 39, 6);
        due("all forty", x.copy(0, 0, 1, 0, 40), 40);
        due("one more", x.copy(0, 0, 1, 0, 41), PLACE);
        due("from 1 on", x.copy(0, 1, 1, 0, 40), PLACE);
        due("to 1 on", x.copy(0, 0, 1, 1, 40), PLACE);
        due("none at both ends", x.copy(0, 40, 1, 40, 0), 0);
        due("none behind an end", x.copy(0, 41, 1, 40, 0), PLACE);
        due("none behind the other", x.copy(0, 40, 1, 41, 0), PLACE);
        due("a row of none", x.row(2, 2, 0), 0);
        due("none to none", x.copy(2, 0, 2, 0, 0), 0);
        due("the last to the first", x.copy(0, 39, 1, 0, 1), 1);
        x.take(0, 10, 1, 1);
        due("item 0", x.get(0, 6), 1);
        x.take(0, 10, 1, 40);
        due("what was there ahead of it is gone", x.get(0, 5), 0);
        due("a stays", x.take(0, 10, 0, 40), 3);
    }

    private static void dropMakesMissing() {
        sentence("drop: A ROW is missing from now on: how many ITEMS it had");
        ClassBits x = new ClassBits();
        x.row(0, 0, 40);
        x.row(1, 0, 0);
        due("forty", x.drop(0), 40);
        due("none", x.drop(1), 0);
        due("rows", x.count(0), 0);
        due("set", x.set(0, 0, 1), NULL);
        due("copy", x.copy(0, 0, 0, 0, 0), NULL);
        due("take", x.take(0, 0, 0, 0), NULL);
        due("tell", x.tell(0, 0, 0, 0), NULL);
        due("drop", x.drop(0), NULL);
    }

    private static void loadEmptiesTheTape() {
        sentence("load: The tape, empty then, is read as a VECTOR: how many BITS");
        ClassBits x = new ClassBits();
        due("a text", read(x, 3, "o2;"), 2);
        due("bytes", x.count(5), 0);
        due("an empty tape", x.load(3), FAULT);
        due("bits stay", x.bits(3), 2);
        feedAll(x, "z3;");
        due("vector 4", x.load(4), BAD);
        due("vector -1", x.load(-1), BAD);
        due("(the tape stays)", x.count(5), 3);
        feedAll(x, "o");
        due("with a fault", x.load(3), FAULT - 4);
        due("bytes", x.count(5), 0);
        due("another text begins anew", read(x, 3, "z1;"), 1);
        dueBits(x, 3, "0");
    }

    private static void latestFault() {
        sentence("fault: The number of the latest FAULT; 0 before one");
        ClassBits x = new ClassBits();
        due("before one", x.fault(), 0);
        read(x, 0, "o1;");
        due("before one", x.fault(), 0);
        x.load(4);
        due("BAD is none", x.fault(), 0);
        read(x, 0, "o0;");
        due("2", x.fault(), 2);
        read(x, 0, "o1;");
        due("a text without one leaves it", x.fault(), 2);
        x.load(4);
        due("BAD leaves it", x.fault(), 2);
        read(x, 0, "o1;".repeat(13));
        due("3", x.fault(), 3);
        read(x, 0, "");
        due("1", x.fault(), 1);
    }

    private static void putTellsWhatItWas() {
        sentence("put: BIT i becomes v (0, 1): what it was");
        int[] places = {0, 14, 15, 29, 30, 479};
        for (int place : places) {
            ClassBits x = new ClassBits();
            x.add(0, 0, 480);
            due("0 by 0 at " + place, x.put(0, place, 0), 0);
            due("0 by 1 at " + place, x.put(0, place, 1), 0);
            due("1 by 1 at " + place, x.put(0, place, 1), 1);
            due("just it", x.ones(0), 1);
            due("its place", x.select(0, 0, 1), place);
            due("1 by 0 at " + place, x.put(0, place, 0), 1);
            due("none", x.ones(0), 0);
        }
    }

    private static void addBehindTheLast() {
        sentence("add: n BITS (1 to 480) come behind the last: how many there are then");
        int[] ahead = {0, 1, 14, 15, 16, 479};
        for (int n : ahead) {
            ClassBits x = new ClassBits();
            addAll(x, 0, "1".repeat(n));
            due("one more", x.add(0, 0, 1), n + 1);
            due("it is the last", x.get(0, n), 0);
            due("ones", x.ones(0), n);
            if (n < 479) {
                due("up to 480", x.add(0, 1, 479 - n), 480);
                due("ones", x.ones(0), 479);
            }
            due("more than 480", x.add(0, 1, 1), FULL);
        }
        ClassBits x = new ClassBits();
        due("0 bits", x.add(0, 1, 0), BAD);
        due("480 bits", x.add(0, 1, 480), 480);
        due("481 bits", x.add(1, 1, 481), BAD);
    }

    private static void cutLeavesTheFirst() {
        sentence("cut: Just the first n BITS stay: how many there were");
        int[] left = {0, 1, 14, 15, 16, 30, 479, 480};
        for (int n : left) {
            ClassBits x = new ClassBits();
            x.add(0, 1, 480);
            due("cut to " + n, x.cut(0, n), 480);
            due("bits", x.bits(0), n);
            due("ones", x.ones(0), n);
            due("one more than there are", x.cut(0, n + 1), BAD);
            due("below 0", x.cut(0, -1), BAD);
            if (n < 480) {
                x.add(0, 0, 480 - n);
                due("what was cut off is gone", x.ones(0), n);
            }
            x.undo();
        }
    }

    private static void turnAll() {
        sentence("turn: All BITS are turned: how many ones there are then");
        int[] bits = {1, 14, 15, 16, 479, 480};
        for (int n : bits) {
            ClassBits x = new ClassBits();
            x.add(0, 0, n);
            due("turned " + n, x.turn(0), n);
            due("bits", x.bits(0), n);
            due("turned again", x.turn(0), 0);
        }
        due("no bits", new ClassBits().turn(0), 0);
    }

    private static void takeFromARow() {
        sentence("take: n BITS (0 to 480), ones at the places that the first many ITEMS tell");
        ClassBits x = new ClassBits();
        x.row(0, 2, 40);
        for (int i = 0; i < 40; i++) {
            x.set(0, i, 479 - 12 * i);
        }
        due("forty", x.take(0, 480, 0, 40), 40);
        due("the last place", x.get(0, 479), 1);
        due("place 11", x.get(0, 11), 1);
        due("thirty-nine", x.take(0, 480, 0, 39), 39);
        due("zeros elsewhere", x.get(0, 11), 0);
        due("none of 480", x.take(0, 480, 0, 0), 0);
        due("bits", x.bits(0), 480);
        due("none of 0", x.take(0, 0, 0, 0), 0);
        due("bits", x.bits(0), 0);
        due("one of 479", x.take(0, 479, 0, 1), PLACE);
        x.set(0, 39, -1);
        due("an item -1 behind the first many", x.take(0, 480, 0, 39), 39);
        due("an item -1", x.take(0, 480, 0, 40), PLACE);
        x.set(0, 39, 480);
        due("an item 480", x.take(0, 480, 0, 40), PLACE);
        sentence("take: (one twice told is one)");
        x.row(1, 0, 40);
        due("forty alike", x.take(0, 1, 1, 40), 1);
        dueBits(x, 0, "1");
    }

    private static void undoLatestFirst() {
        sentence("undo: The latest ACT is undone: how many can be undone yet. STATE: none");
        ClassBits x = new ClassBits();
        due("none", x.undo(), STATE);
        x.add(0, 1, 3);
        x.add(1, 0, 2);
        x.put(0, 0, 0);
        due("the put", x.undo(), 2);
        dueBits(x, 0, "111");
        dueBits(x, 1, "00");
        due("the second", x.undo(), 1);
        dueBits(x, 0, "111");
        dueBits(x, 1, "");
        due("the first", x.undo(), 0);
        dueBits(x, 0, "");
        due("none", x.undo(), STATE);
        due("acts", x.count(4), 0);
    }

    private static void tellToARow() {
        sentence("tell: from the k-th on, from i on, to its end, or as many as there are");
        ClassBits x = with("1".repeat(480));
        x.row(0, 1, 40);
        due("forty of 480", x.tell(0, 0, 0, 0), 40);
        due("from 440 on", x.tell(0, 440, 0, 0), 40);
        due("from 441 on", x.tell(0, 441, 0, 0), 39);
        due("the last", x.tell(0, 479, 0, 0), 1);
        due("behind it", x.tell(0, 480, 0, 0), 0);
        due("most", x.tell(0, MOST, 0, 0), 0);
        due("to the last item", x.tell(0, 0, 0, 39), 1);
        due("to its end", x.tell(0, 0, 0, 40), 0);
        due("beyond", x.tell(0, 0, 0, 41), PLACE);
        due("below", x.tell(0, 0, 0, -1), PLACE);
        x.row(1, 1, 4);
        due("two from item 1 on", x.tell(0, 478, 1, 1), 2);
        dueItems(x, 1, 1, 0, 478, 479, 0);
        x.row(2, 0, 0);
        due("a row of none", x.tell(0, 0, 2, 0), 0);
        due("beyond it", x.tell(0, 0, 2, 1), PLACE);
        due("no bits", x.tell(1, 0, 0, 0), 0);
        sentence("tell: (each its lowest bits)");
        x.row(3, 0, 3);
        due("127 and on", x.tell(0, 127, 3, 0), 3);
        due("a byte that is 127", x.take(2, 128, 3, 1), 1);
        due("a byte that is -128", x.take(2, 480, 3, 2), PLACE);
        due("256 and on", x.tell(0, 256, 3, 0), 3);
        dueItems(x, 3, 0, 0, 1, 2);
    }

    private static void imagesAreKept() {
        sentence("image: An IMAGE (0, 1) is kept of all VECTORS: how many ones together");
        ClassBits x = new ClassBits();
        due("of nothing", x.image(0), 0);
        x.add(0, 1, 480);
        x.add(1, 1, 480);
        x.add(2, 1, 480);
        x.add(3, 1, 480);
        due("of all there can be", x.image(1), 1920);
        due("acts stay", x.count(4), 4);
        due("image -1", x.image(-1), BAD);
        due("image 2", x.image(2), BAD);
        due("the one of nothing", x.restore(0), 0);
        due("bits", x.count(2), 0);
        due("the full one", x.restore(1), 1920);
        due("bits", x.count(2), 1920);
        x.turn(2);
        x.cut(3, 1);
        due("kept anew", x.image(1), 961);
        x.cut(0, 0);
        due("as it was kept", x.restore(1), 961);
        x.turn(0);
        due("as often as is asked", x.restore(1), 961);
        due("bits", x.count(2), 1441);
    }

    private static void restoreForgetsActs() {
        sentence("restore: (no ACT can be undone then). BAD; STATE: none was kept");
        ClassBits x = with("10", "1");
        due("none was kept", x.restore(0), STATE);
        due("none was kept", x.restore(1), STATE);
        due("acts stay", x.count(4), 3);
        x.image(1);
        due("none was kept there", x.restore(0), STATE);
        due("acts stay", x.count(4), 3);
        due("restore", x.restore(1), 2);
        due("acts", x.count(4), 0);
        due("undo", x.undo(), STATE);
        x.turn(0);
        due("a new act", x.count(4), 1);
        due("undo", x.undo(), 0);
        dueBits(x, 0, "10");
        sentence("restore: All VECTORS, and nothing else");
        x.row(0, 0, 3);
        read(x, 0, "a3;");
        x.ask(0, 0);
        x.feed('z');
        x.restore(1);
        due("rows", x.count(0), 1);
        due("runs", x.count(1), 1);
        due("bytes", x.count(5), 1);
        due("trace", x.trace(0), 13);
    }

    private static void counts() {
        sentence("count: 0 ROWS, 1 RUNS, 2 BITS, 3 ones, 4 ACTS that can be undone, 5 bytes");
        ClassBits x = new ClassBits();
        for (int what = 0; what <= 5; what++) {
            due("at first " + what, x.count(what), 0);
        }
        for (int r = 0; r < 8; r++) {
            x.row(r, 0, 0);
        }
        read(x, 0, "o40;".repeat(12));
        for (int v = 1; v < 4; v++) {
            x.join(1, 0, 0, v);
        }
        x.put(3, 0, 0);
        for (int i = 0; i < 20; i++) {
            x.turn(2);
        }
        feedAll(x, "z".repeat(60));
        int[] due = {8, 12, 1920, 1919, 12, 60};
        for (int what = 0; what <= 5; what++) {
            due("at most " + what, x.count(what), due[what]);
        }
        due("count 6", x.count(6), BAD);
        due("count -1", x.count(-1), BAD);
    }
}
