/** Each promise of the document by hand: ordinary inputs, the edges it names, wrong inputs. */
public final class PromisesTest extends Checks {
    private static ClassBits loaded(int vector, String text) {
        ClassBits x = new ClassBits();
        feedAll(x, text);
        x.load(vector);
        return x;
    }

    /** Makes a vector of a text of 0 and 1. */
    private static void make(ClassBits x, int vector, String bits) {
        x.cut(vector, 0);
        for (int i = 0; i < bits.length(); i++) {
            x.add(vector, bits.charAt(i) - '0', 1);
        }
    }

    private static ClassBits made(String bits0, String bits1) {
        ClassBits x = new ClassBits();
        make(x, 0, bits0);
        make(x, 1, bits1);
        return x;
    }

    public static void main(String[] args) {
        promise1();
        promise2();
        promise3();
        promise4();
        promise5();
        promise6();
        promise7();
        promise7Faults();
        promise8();
        promise9();
        promise10();
        promise11();
        promise12();
        promise13();
        promise14();
        promise15();
        promise16To18();
        promise19();
        promise20();
        promise21();
        promise22();
        promise23();
        promise24And25();
        promise26();
        promise27();
        promise28And29();
        promise30();
        promise31();
        promise32();
        promise33();
        promise34();
        promise35();
        promise36And37();
        promise38();
        promise39();
        promise40And41();
        promise42();
        promise43();
        end();
    }

    private static void promise1() {
        sentence("promise 1");
        ClassBits x = new ClassBits();
        for (int what = 0; what < 6; what++) {
            due("count", x.count(what), 0);
        }
        for (int v = 0; v < 4; v++) {
            due("bits", x.bits(v), 0);
        }
        for (int r = 0; r < 8; r++) {
            due("drop", x.drop(r), NULL);
        }
        x = new ClassBits();
        due("fault", x.fault(), 0);
        due("status", x.status(), 0);
        due("undo", x.undo(), STATE);
        due("trace", x.trace(0), NONE);
        due("restore", x.restore(0), STATE);
        due("kind", x.kind(0), BAD);
        due("NONE", ClassBits.NONE, NONE);
        due("BAD", ClassBits.BAD, BAD);
        due("STATE", ClassBits.STATE, STATE);
        due("FULL", ClassBits.FULL, FULL);
    }

    private static void promise2() {
        sentence("promise 2");
        ClassBits x = new ClassBits();
        due("least", x.row(0, 0, 0), 0);
        due("most", x.row(7, 2, 40), 40);
        due("n 41", x.row(0, 0, 41), BAD);
        due("n most", x.row(0, 0, MOST), BAD);
        due("row -1", x.row(-1, 0, 1), BAD);
        due("row 8", x.row(8, 0, 1), BAD);
        due("lane -1", x.row(0, -1, 1), BAD);
        due("lane 3", x.row(0, 3, 1), BAD);
        due("bad ahead of size", x.row(0, 3, -1), BAD);
        due("size", x.row(7, 0, -1), SIZE);
        due("size", x.row(7, 0, LEAST), SIZE);
        due("it stays", x.drop(7), 40);
        x.row(1, 2, 2);
        x.set(1, 0, 5);
        x.row(1, 2, 2);
        x.take(0, 6, 1, 2);
        due("its items are 0 anew", x.get(0, 5), 0);
        due("another lane", x.row(1, 0, 3), 3);
        due("bytes now", x.set(1, 2, 128), -128);
    }

    private static void promise3() {
        sentence("promise 3");
        ClassBits x = new ClassBits();
        x.row(0, 0, 2);
        x.row(1, 1, 2);
        x.row(2, 2, 2);
        due("127", x.set(0, 1, 127), 127);
        due("128", x.set(0, 0, 128), -128);
        due("256", x.set(0, 0, 256), 0);
        due("-129", x.set(0, 0, -129), 127);
        due("32767", x.set(1, 0, 32767), 32767);
        due("32768", x.set(1, 0, 32768), -32768);
        due("65536", x.set(1, 0, 65536), 0);
        due("most", x.set(2, 1, MOST), MOST);
        due("least", x.set(2, 1, LEAST), LEAST);
        due("row -1", x.set(-1, 0, 0), BAD);
        due("row 8", x.set(8, 0, 0), BAD);
        due("missing", x.set(3, -1, 0), NULL);
        due("place -1", x.set(0, -1, 0), PLACE);
        due("place 2", x.set(0, 2, 0), PLACE);
    }

    private static void promise4() {
        sentence("promise 4");
        ClassBits x = new ClassBits();
        x.row(0, 2, 5);
        for (int i = 0; i < 5; i++) {
            x.set(0, i, 10 + i);
        }
        due("onto itself, up", x.copy(0, 0, 0, 1, 4), 4);
        x.take(0, 20, 0, 5);
        dueBits(x, 0, "00000000001111000000");
        due("onto itself, down", x.copy(0, 3, 0, 0, 2), 2);
        x.take(0, 20, 0, 1);
        dueBits(x, 0, "00000000000010000000");
        x.row(1, 2, 3);
        due("to another", x.copy(0, 2, 1, 0, 3), 3);
        x.take(0, 20, 1, 3);
        dueBits(x, 0, "00000000000111000000");
        due("none, at both ends", x.copy(0, 5, 1, 3, 0), 0);
        due("none, beyond", x.copy(0, 6, 1, 3, 0), PLACE);
        due("none, beyond", x.copy(0, 5, 1, 4, 0), PLACE);
        due("i", x.copy(0, -1, 1, 0, 1), PLACE);
        due("j", x.copy(0, 0, 1, -1, 1), PLACE);
        due("n", x.copy(0, 0, 1, 0, -1), PLACE);
        due("beyond a", x.copy(1, 1, 0, 0, 3), PLACE);
        due("beyond b", x.copy(0, 0, 1, 1, 3), PLACE);
        due("sums wrap", x.copy(0, 1, 1, 0, MOST), PLACE);
        due("sums wrap", x.copy(0, MOST, 1, 0, 1), PLACE);
        due("differences wrap", x.copy(0, 0, 1, 0, LEAST), PLACE);
        due("a -1", x.copy(-1, 0, 0, 0, 0), BAD);
        due("b 8", x.copy(0, 0, 8, 0, 0), BAD);
        due("a is missing", x.copy(5, 0, 0, 0, 0), NULL);
        due("b is missing", x.copy(0, 0, 5, 0, 0), NULL);
        due("bad ahead of null", x.copy(5, 0, 8, 0, 0), BAD);
        x.row(2, 1, 3);
        due("null ahead of store", x.copy(5, -1, 2, 0, 0), NULL);
        due("store ahead of place", x.copy(0, -1, 2, 0, 0), STORE);
        due("store of none", x.copy(0, 0, 2, 0, 0), STORE);
    }

    private static void promise5() {
        sentence("promise 5");
        ClassBits x = new ClassBits();
        x.row(3, 1, 17);
        due("there", x.drop(3), 17);
        due("missing", x.drop(3), NULL);
        due("set", x.set(3, 0, 0), NULL);
        due("row -1", x.drop(-1), BAD);
        due("row 8", x.drop(8), BAD);
        due("count", x.count(0), 0);
    }

    private static void promise6() {
        sentence("promise 6");
        ClassBits x = new ClassBits();
        due("-1", x.feed(-1), BAD);
        due("256", x.feed(256), BAD);
        due("0", x.feed(0), 1);
        due("255", x.feed(255), 2);
        for (int i = 3; i <= 60; i++) {
            due("feed", x.feed('z'), i);
        }
        due("full", x.feed('z'), FULL);
        due("bad ahead of full", x.feed(-1), BAD);
        due("it has", x.count(5), 60);
    }

    private static void promise7() {
        sentence("promise 7");
        ClassBits x = loaded(1, "z2;o3;t7;a5;b9;");
        dueBits(x, 1, "00" + "111" + "1001001" + "10101" + "111100001");
        due("runs", x.count(1), 5);
        due("tape", x.count(5), 0);
        due("act", x.count(4), 1);
        feedAll(x, "o1;");
        due("vector 4", x.load(4), BAD);
        due("vector -1", x.load(-1), BAD);
        due("the tape stays", x.count(5), 3);
        due("in place of what was there", x.load(1), 1);
        dueBits(x, 1, "1");
        due("runs", x.count(1), 1);
        feedAll(x, "o09;");
        due("a leading zero", x.load(0), 9);
        StringBuilder twelve = new StringBuilder();
        for (int i = 0; i < 12; i++) {
            twelve.append("o40;");
        }
        feedAll(x, twelve.toString());
        due("480 in twelve runs", x.load(0), 480);
        due("runs", x.count(1), 12);
        due("ones", x.ones(0), 480);
        due("fault", x.fault(), 0);
    }

    /** A text, the place of its fault, its number; all but the tape and the fault stays. */
    private static void dueFault(String text, int place, int number) {
        ClassBits x = loaded(2, "o3;z1;");
        feedAll(x, text);
        due("load of " + text, x.load(2), -1000100 - place);
        due("fault of " + text, x.fault(), number);
        due("tape of " + text, x.count(5), 0);
        due("runs of " + text, x.count(1), 2);
        due("acts of " + text, x.count(4), 1);
        dueBits(x, 2, "1110");
    }

    private static void promise7Faults() {
        dueFault("", 0, 1);
        dueFault("z", 1, 1);
        dueFault("z1", 2, 1);
        dueFault("z1;o", 4, 1);
        dueFault("z1;;", 3, 1);
        dueFault(";", 0, 1);
        dueFault("1;", 0, 1);
        dueFault("zz1;", 1, 1);
        dueFault("z,", 1, 1);
        dueFault("z1,", 2, 1);
        dueFault("z1o", 2, 1);
        dueFault("c1;", 0, 1);
        dueFault("Z1;", 0, 1);
        dueFault(" z1;", 0, 1);
        dueFault("z 1;", 1, 1);
        dueFault("z1 ;", 2, 1);
        dueFault("z1; ", 3, 1);
        dueFault("z1;" + (char) 0, 3, 1);
        dueFault("z" + (char) 255 + ";", 1, 1);
        dueFault("z/;", 1, 1);
        dueFault("z:;", 1, 1);
        dueFault("z100;", 1, 1);
        dueFault("z000;", 1, 1);
        dueFault("z1;o1234;", 4, 1);
        dueFault("z123", 1, 1);
        dueFault("123", 0, 1);
        dueFault("z0;", 1, 2);
        dueFault("z00;", 1, 2);
        dueFault("z0", 1, 2);
        dueFault("z0,y", 1, 2);
        dueFault("z1;o0", 4, 2);
        String twelve = "z1;z1;z1;z1;z1;z1;z1;z1;z1;z1;z1;z1;";
        dueFault(twelve + "o1;", 36, 3);
        dueFault(twelve + "o", 36, 3);
        dueFault(twelve + "ox", 36, 3);
        dueFault(twelve + "x", 36, 1);
        dueFault(twelve + "1", 36, 1);
        dueFault(twelve + ";", 36, 1);
        String most = "z99;z99;z99;z99;z84;";
        dueFault(most + "z1;", 21, 4);
        dueFault(most + "z1", 21, 4);
        dueFault(most + "z1x", 21, 4);
        dueFault(most + "z0;", 21, 2);
        dueFault(most + "z100;", 21, 1);
        dueFault("z99;z99;z99;z99;z85;", 17, 4);
        dueFault("z99;z99;z99;z99;z85,", 17, 4);
        dueFault("x0;z0;", 0, 1);
    }

    private static void promise8() {
        sentence("promise 8");
        ClassBits x = new ClassBits();
        due("before one", x.fault(), 0);
        feedAll(x, "z0;");
        x.load(0);
        due("2", x.fault(), 2);
        feedAll(x, "z1;");
        x.load(0);
        due("it stays", x.fault(), 2);
        x.load(0);
        due("the latest", x.fault(), 1);
        x.load(9);
        due("bad", x.fault(), 1);
    }

    private static void promise9() {
        sentence("promise 9");
        ClassBits x = made("0100000000000001", "1");
        due("it was", x.put(0, 0, 1), 0);
        due("it was", x.put(0, 1, 0), 1);
        due("it was", x.put(0, 14, 1), 0);
        due("it was", x.put(0, 15, 1), 1);
        dueBits(x, 0, "1000000000000011");
        int acts = x.count(4);
        due("place", x.put(0, 16, 1), BAD);
        due("place", x.put(0, -1, 1), BAD);
        due("value", x.put(0, 0, 2), BAD);
        due("value", x.put(0, 0, -1), BAD);
        due("vector", x.put(4, 0, 1), BAD);
        due("vector", x.put(-1, 0, 1), BAD);
        due("acts", x.count(4), acts);
        dueBits(x, 1, "1");
        ClassBits y = new ClassBits();
        y.add(0, 1, 3);
        y.put(0, 1, 1);
        due("an act though nothing changes", y.count(4), 2);
    }

    private static void promise10() {
        sentence("promise 10");
        ClassBits x = new ClassBits();
        due("add", x.add(0, 1, 16), 16);
        due("add", x.add(0, 0, 1), 17);
        due("add", x.add(0, 1, 2), 19);
        dueBits(x, 0, "1111111111111111011");
        due("all at once", x.add(1, 1, 480), 480);
        due("one more", x.add(1, 1, 1), FULL);
        due("beyond", x.add(0, 1, 462), FULL);
        due("just", x.add(0, 0, 461), 480);
        due("ones", x.ones(0), 18);
        due("n 0", x.add(2, 1, 0), BAD);
        due("n 481", x.add(2, 1, 481), BAD);
        due("n most", x.add(1, 1, MOST), BAD);
        due("value", x.add(2, 2, 1), BAD);
        due("value", x.add(2, -1, 1), BAD);
        due("vector", x.add(4, 1, 1), BAD);
        due("vector", x.add(-1, 1, 1), BAD);
        due("bad ahead of full", x.add(1, 2, 1), BAD);
        due("acts", x.count(4), 5);
        x.cut(1, 2);
        x.add(1, 0, 3);
        dueBits(x, 1, "11000");
    }

    private static void promise11() {
        sentence("promise 11");
        ClassBits x = new ClassBits();
        x.add(0, 1, 40);
        due("as many", x.cut(0, 40), 40);
        due("cut", x.cut(0, 31), 40);
        due("ones", x.ones(0), 31);
        due("one more", x.cut(0, 32), BAD);
        due("below 0", x.cut(0, -1), BAD);
        due("vector", x.cut(4, 0), BAD);
        due("vector", x.cut(-1, 0), BAD);
        due("cut", x.cut(0, 2), 31);
        due("zeros behind the end", x.block(0, 0, 3), 3);
        x.add(1, 1, 40);
        due("zeros behind the end", x.join(0, 0, 1, 1), 2);
        x.undo();
        x.undo();
        x.add(0, 0, 38);
        due("what was cut off is gone", x.ones(0), 2);
        due("all", x.cut(0, 0), 40);
        due("bits", x.bits(0), 0);
        due("of none", x.cut(0, 0), 0);
        due("acts", x.count(4), 7);
    }

    private static void promise12() {
        sentence("promise 12");
        ClassBits x = made("110000000000000000011", "101");
        String[] due = {
            "100000000000000000000", "111000000000000000011",
            "011000000000000000011", "010000000000000000011",
        };
        int[] ones = {1, 5, 4, 3};
        for (int how = 0; how < 4; how++) {
            due("join " + how, x.join(how, 0, 1, 2), ones[how]);
            dueBits(x, 2, due[how]);
        }
        due("the longer one behind", x.join(3, 1, 0, 2), 1);
        dueBits(x, 2, "001000000000000000000");
        due("to a", x.join(2, 0, 1, 0), 4);
        dueBits(x, 0, due[2]);
        due("to b", x.join(2, 0, 1, 1), 4);
        dueBits(x, 1, "110000000000000000011");
        due("with itself", x.join(2, 0, 0, 0), 0);
        due("its bits", x.bits(0), 21);
        due("how", x.join(4, 0, 1, 2), BAD);
        due("how", x.join(-1, 0, 1, 2), BAD);
        for (int v = -1; v < 5; v += 5) {
            due("a", x.join(0, v, 1, 2), BAD);
            due("b", x.join(0, 0, v, 2), BAD);
            due("c", x.join(0, 0, 1, v), BAD);
        }
        due("c becomes shorter", x.join(1, 3, 3, 2), 0);
        due("its bits", x.bits(2), 0);
        x.undo();
        dueBits(x, 2, "001000000000000000000");
    }

    private static void promise13() {
        sentence("promise 13");
        ClassBits x = made("10100000000000001", "");
        due("turn", x.turn(0), 14);
        dueBits(x, 0, "01011111111111110");
        due("behind the end", x.block(0, 1, 3), 1);
        x.add(0, 0, 2);
        due("ones", x.ones(0), 14);
        due("none", x.turn(1), 0);
        due("vector", x.turn(4), BAD);
        due("vector", x.turn(-1), BAD);
        x.add(2, 0, 480);
        due("all", x.turn(2), 480);
    }

    private static void promise14() {
        sentence("promise 14");
        ClassBits x = new ClassBits();
        x.row(0, 2, 4);
        x.set(0, 0, 3);
        x.set(0, 1, 0);
        x.set(0, 2, 3);
        x.set(0, 3, 479);
        due("twice told", x.take(0, 5, 0, 3), 2);
        dueBits(x, 0, "10010");
        due("fewer", x.take(0, 4, 0, 1), 1);
        dueBits(x, 0, "0001");
        due("the last place", x.take(0, 480, 0, 4), 3);
        due("beyond it", x.take(0, 479, 0, 4), PLACE);
        due("at the end", x.take(0, 3, 0, 1), PLACE);
        due("many 0", x.take(1, 7, 0, 0), 0);
        dueBits(x, 1, "0000000");
        int acts = x.count(4);
        due("n 481", x.take(0, 481, 0, 1), BAD);
        due("many 41", x.take(0, 480, 0, 41), BAD);
        due("many 40", x.take(0, 480, 0, 40), PLACE);
        x.row(3, 2, 40);
        due("40", x.take(3, 1, 3, 40), 1);
        due("vector", x.take(4, 1, 0, 0), BAD);
        due("vector", x.take(-1, 1, 0, 0), BAD);
        due("row", x.take(0, 1, 8, 0), BAD);
        due("row", x.take(0, 1, -1, 0), BAD);
        due("bad ahead of size", x.take(0, -1, 0, 41), BAD);
        due("size ahead of null", x.take(0, -1, 1, -1), SIZE);
        due("size", x.take(0, LEAST, 0, 0), SIZE);
        due("null ahead of place", x.take(0, 0, 1, -1), NULL);
        due("many below 0", x.take(0, 9, 0, -1), PLACE);
        due("many least", x.take(0, 9, 0, LEAST), PLACE);
        due("many beyond", x.take(0, 480, 0, 5), PLACE);
        x.set(0, 1, -1);
        due("an item below 0", x.take(0, 480, 0, 4), PLACE);
        due("behind the first many", x.take(2, 4, 0, 1), 1);
        due("acts", x.count(4), acts + 2);
        due("what was found changed nothing", x.ones(0), 3);
        due("what was found changed nothing", x.bits(0), 480);
    }

    private static void promise15() {
        sentence("promise 15");
        ClassBits x = new ClassBits();
        due("none", x.undo(), STATE);
        feedAll(x, "o4;");
        x.load(0);
        x.put(0, 1, 0);
        x.add(0, 1, 2);
        x.cut(0, 5);
        x.join(1, 0, 0, 1);
        x.turn(1);
        x.row(0, 2, 1);
        x.take(2, 3, 0, 1);
        dueBits(x, 2, "100");
        due("take", x.undo(), 6);
        due("bits", x.bits(2), 0);
        dueBits(x, 1, "01000");
        due("turn", x.undo(), 5);
        dueBits(x, 1, "10111");
        due("join", x.undo(), 4);
        dueBits(x, 1, "");
        dueBits(x, 0, "10111");
        due("cut", x.undo(), 3);
        dueBits(x, 0, "101111");
        due("add", x.undo(), 2);
        dueBits(x, 0, "1011");
        due("put", x.undo(), 1);
        dueBits(x, 0, "1111");
        due("load", x.undo(), 0);
        dueBits(x, 0, "");
        due("the runs are those of the latest text yet", x.count(1), 1);
        due("none", x.undo(), STATE);
        promise15Forgets();
    }

    private static void promise15Forgets() {
        ClassBits x = new ClassBits();
        for (int i = 1; i <= 30; i++) {
            x.add(i % 2, 1, 1);
            due("acts", x.count(4), Math.min(i, 12));
        }
        x.undo();
        x.undo();
        x.undo();
        due("bits", x.bits(0), 13);
        due("bits", x.bits(1), 14);
        x.add(3, 0, 2);
        due("acts", x.count(4), 10);
        for (int i = 9; i >= 0; i--) {
            due("undo", x.undo(), i);
        }
        due("none", x.undo(), STATE);
        due("bits", x.bits(0), 9);
        due("bits", x.bits(1), 9);
        due("bits", x.bits(3), 0);
    }

    private static void promise16To18() {
        ClassBits x = made("0110000000000001", "");
        sentence("promise 16");
        due("bits", x.bits(0), 16);
        due("bits", x.bits(1), 0);
        due("vector", x.bits(4), BAD);
        due("vector", x.bits(-1), BAD);
        sentence("promise 17");
        due("get", x.get(0, 0), 0);
        due("get", x.get(0, 1), 1);
        due("get", x.get(0, 15), 1);
        due("place", x.get(0, 16), BAD);
        due("place", x.get(0, -1), BAD);
        due("place", x.get(1, 0), BAD);
        due("vector", x.get(4, 0), BAD);
        due("vector", x.get(-1, 0), BAD);
        sentence("promise 18");
        due("ones", x.ones(0), 3);
        due("ones", x.ones(1), 0);
        due("vector", x.ones(4), BAD);
        due("vector", x.ones(-1), BAD);
    }

    private static void promise19() {
        sentence("promise 19");
        ClassBits x = made("010100000000000" + "111111111111111" + "0100", "");
        int[][] due = {{2, 4, 7, 10, 0}, {15, 0, 0, 32767, 7}, {1, 1, 4, 2, 7}};
        for (int block = 0; block < 3; block++) {
            for (int what = 0; what < 5; what++) {
                due("block " + block + " " + what, x.block(0, block, what), due[block][what]);
            }
        }
        due("block 3", x.block(0, 3, 0), BAD);
        due("block -1", x.block(0, -1, 0), BAD);
        due("no block", x.block(1, 0, 0), BAD);
        due("what", x.block(0, 0, 5), BAD);
        due("what", x.block(0, 0, -1), BAD);
        due("vector", x.block(4, 0, 0), BAD);
        due("vector", x.block(-1, 0, 0), BAD);
        x.cut(0, 30);
        due("the last is full", x.block(0, 2, 0), BAD);
        int[] widths = {0, 4, 7, 9, 11, 12, 13, 13, 13, 13, 12, 11, 9, 7, 4, 0};
        for (int sort = 0; sort <= 15; sort++) {
            x.cut(0, 0);
            x.add(0, 0, 15);
            for (int i = 0; i < sort; i++) {
                x.put(0, 14 - i, 1);
            }
            due("class", x.block(0, 0, 0), sort);
            due("the greatest offset", x.block(0, 0, 1), x.choose(15, sort) - 1);
            due("width", x.block(0, 0, 2), widths[sort]);
        }
    }

    private static void promise20() {
        sentence("promise 20");
        ClassBits x = new ClassBits();
        due("none", x.entry(0, 0, 0), BAD);
        x.add(0, 1, 1);
        due("ones ahead", x.entry(0, 0, 0), 0);
        due("begin", x.entry(0, 0, 1), 0);
        x.add(0, 0, 59);
        due("four blocks", x.entry(0, 1, 0), BAD);
        x.add(0, 1, 1);
        due("ones ahead", x.entry(0, 1, 0), 1);
        due("begin", x.entry(0, 1, 1), 4);
        x.add(0, 1, 419);
        due("ones ahead", x.entry(0, 7, 0), 361);
        due("begin", x.entry(0, 7, 1), 4);
        due("entry 8", x.entry(0, 8, 0), BAD);
        due("entry -1", x.entry(0, -1, 0), BAD);
        due("what", x.entry(0, 0, 2), BAD);
        due("what", x.entry(0, 0, -1), BAD);
        due("vector", x.entry(4, 0, 0), BAD);
        due("vector", x.entry(-1, 0, 0), BAD);
    }

    private static void dueSizes(ClassBits x, int payload, int classes, int directory, int plain) {
        due("payload", x.size(0, 0), payload);
        due("classes", x.size(0, 1), classes);
        due("directory", x.size(0, 2), directory);
        due("all three", x.size(0, 3), payload + classes + directory);
        due("plain", x.size(0, 4), plain);
    }

    private static void promise21() {
        sentence("promise 21");
        ClassBits x = new ClassBits();
        dueSizes(x, 0, 0, 0, 0);
        x.add(0, 1, 1);
        dueSizes(x, 4, 4, 18, 15);
        x.add(0, 1, 14);
        dueSizes(x, 0, 4, 18, 15);
        x.add(0, 1, 2);
        dueSizes(x, 7, 8, 18, 30);
        x.cut(0, 15);
        x.add(0, 0, 46);
        dueSizes(x, 0, 20, 36, 75);
        due("what", x.size(0, 5), BAD);
        due("what", x.size(0, -1), BAD);
        due("vector", x.size(4, 0), BAD);
        due("vector", x.size(-1, 0), BAD);
        feedAll(x, "a90;a90;a90;a90;a90;a30;");
        x.load(0);
        dueSizes(x, 416, 128, 144, 480);
    }

    private static void promise22() {
        sentence("promise 22");
        ClassBits x = made("000000000000001" + "110000000000000" + "001000000000000", "");
        due("14, 0, 2", x.payload(0, 0), 14 + (2L << 11));
        due("behind its end", x.payload(0, 1), 0);
        due("k 6", x.payload(0, 6), 0);
        due("k 7", x.payload(0, 7), BAD);
        due("k -1", x.payload(0, -1), BAD);
        due("vector", x.payload(4, 0), BAD);
        due("vector", x.payload(-1, 0), BAD);
        dueSixAlike(x, "a15;a15;a15;a15;a15;a15;", x.offset(0x5555));
        dueSixAlike(x, "z7;o8;z7;o8;z7;o8;z7;o8;z7;o8;z7;o8;", 6434);
        x.turn(0);
        due("the other way", x.payload(0, 0), 0);
    }

    /** Six like blocks of 13 bits: of the fifth just the last bit lies in the second word. */
    private static void dueSixAlike(ClassBits x, String text, long offset) {
        feedAll(x, text);
        due("bits", x.load(0), 90);
        long first = 0;
        for (int i = 0; i < 5; i++) {
            first |= offset << 13 * i;
        }
        due("13 bits each", x.payload(0, 0), first);
        due("across the words", x.payload(0, 1), offset >> 12 | offset << 1);
    }

    private static void promise23() {
        sentence("promise 23");
        ClassBits x = new ClassBits();
        int[] row = new int[16];
        row[0] = 1;
        for (int n = 0; n <= 15; n++) {
            for (int k = 0; k <= 15; k++) {
                due("choose " + n + " " + k, x.choose(n, k), row[k]);
            }
            if (n == 7) {
                x = new ClassBits();
            }
            for (int k = 15; k > 0; k--) {
                row[k] += row[k - 1];
            }
        }
        due("n 16", x.choose(16, 1), BAD);
        due("n -1", x.choose(-1, 1), BAD);
        due("k 16", x.choose(15, 16), BAD);
        due("k -1", x.choose(15, -1), BAD);
    }

    private static void promise24And25() {
        int[] seen = new int[16];
        ClassBits x = new ClassBits();
        for (int mask = 0; mask <= 32767; mask++) {
            if (mask % 200 == 0) {
                x = new ClassBits();
            }
            int sort = Integer.bitCount(mask);
            sentence("promise 24");
            due("offset " + mask, x.offset(mask), seen[sort]);
            sentence("promise 25");
            due("mask of " + mask, x.mask(sort, seen[sort]), mask);
            seen[sort]++;
        }
        sentence("promise 24");
        x = new ClassBits();
        due("-1", x.offset(-1), BAD);
        due("32768", x.offset(32768), BAD);
        sentence("promise 25");
        for (int sort = 0; sort <= 15; sort++) {
            due("beyond " + sort, x.mask(sort, seen[sort]), BAD);
            due("below 0", x.mask(sort, -1), BAD);
        }
        due("class 16", x.mask(16, 0), BAD);
        due("class -1", x.mask(-1, 0), BAD);
    }

    private static void promise26() {
        sentence("promise 26");
        ClassBits x = new ClassBits();
        x.add(0, 1, 16);
        x.add(0, 0, 10);
        x.add(0, 1, 454);
        due("0", x.rank(0, 0, 1), 0);
        due("15", x.rank(0, 15, 1), 15);
        due("16", x.rank(0, 16, 1), 16);
        due("20", x.rank(0, 20, 1), 16);
        due("20 zeros", x.rank(0, 20, 0), 4);
        due("the end", x.rank(0, 480, 1), 470);
        due("the end, zeros", x.rank(0, 480, 0), 10);
        due("beyond", x.rank(0, 481, 1), BAD);
        due("below", x.rank(0, -1, 1), BAD);
        due("value", x.rank(0, 0, 2), BAD);
        due("value", x.rank(0, 0, -1), BAD);
        due("vector", x.rank(4, 0, 1), BAD);
        due("vector", x.rank(-1, 0, 1), BAD);
        due("none", x.rank(1, 0, 0), 0);
    }

    private static void promise27() {
        sentence("promise 27");
        ClassBits x = made("0010110000000000001", "");
        int[] ones = {2, 4, 5, 18, NONE};
        for (int k = 0; k < 5; k++) {
            due("one " + k, x.select(0, k, 1), ones[k]);
        }
        due("zero 0", x.select(0, 0, 0), 0);
        due("zero 2", x.select(0, 2, 0), 3);
        due("zero 14", x.select(0, 14, 0), 17);
        due("zero 15", x.select(0, 15, 0), NONE);
        due("most", x.select(0, MOST, 0), NONE);
        due("k -1", x.select(0, -1, 0), BAD);
        due("value", x.select(0, 0, 2), BAD);
        due("value", x.select(0, 0, -1), BAD);
        due("vector", x.select(4, 0, 0), BAD);
        due("vector", x.select(-1, 0, 0), BAD);
    }

    private static void promise28And29() {
        sentence("promise 28");
        ClassBits x = made("0010110000000000", "");
        due("it, too", x.next(0, 2, 1), 2);
        due("behind it", x.next(0, 3, 1), 4);
        due("zeros", x.next(0, 4, 0), 6);
        due("no more", x.next(0, 6, 1), NONE);
        due("the last", x.next(0, 15, 0), 15);
        due("the end", x.next(0, 16, 0), NONE);
        due("beyond", x.next(0, 17, 0), BAD);
        due("below", x.next(0, -1, 0), BAD);
        due("value", x.next(0, 0, 2), BAD);
        due("value", x.next(0, 0, -1), BAD);
        due("vector", x.next(4, 0, 0), BAD);
        due("vector", x.next(-1, 0, 0), BAD);
        sentence("promise 29");
        due("not it", x.last(0, 2, 1), NONE);
        due("ahead", x.last(0, 3, 1), 2);
        due("the end", x.last(0, 16, 1), 5);
        due("the end, zeros", x.last(0, 16, 0), 15);
        due("zeros", x.last(0, 6, 0), 3);
        due("the first", x.last(0, 1, 0), 0);
        due("0", x.last(0, 0, 0), NONE);
        due("beyond", x.last(0, 17, 0), BAD);
        due("below", x.last(0, -1, 0), BAD);
        due("value", x.last(0, 0, 2), BAD);
        due("value", x.last(0, 0, -1), BAD);
        due("vector", x.last(4, 0, 0), BAD);
        due("vector", x.last(-1, 0, 0), BAD);
    }

    private static void promise30() {
        sentence("promise 30");
        ClassBits x = made("0010110000000000001", "1");
        due("six", x.stretches(0), 6);
        due("one", x.stretches(1), 1);
        due("none", x.stretches(2), 0);
        x.add(3, 0, 1);
        due("a zero", x.stretches(3), 1);
        x.add(3, 1, 2);
        due("two", x.stretches(3), 2);
        x.add(3, 0, 2);
        due("three", x.stretches(3), 3);
        x.add(2, 0, 480);
        due("one", x.stretches(2), 1);
        due("vector", x.stretches(4), BAD);
        due("vector", x.stretches(-1), BAD);
    }

    private static void promise31() {
        sentence("promise 31");
        ClassBits x = made("011010000110001", "111");
        due("ones", x.longest(0, 1, 0), 2);
        due("of several the first", x.longest(0, 1, 1), 1);
        due("zeros", x.longest(0, 0, 0), 4);
        due("zeros' place", x.longest(0, 0, 1), 5);
        due("no zeros", x.longest(1, 0, 0), 0);
        due("no zeros' place", x.longest(1, 0, 1), NONE);
        due("all", x.longest(1, 1, 0), 3);
        due("all's place", x.longest(1, 1, 1), 0);
        due("no bits", x.longest(2, 1, 0), 0);
        due("no bits", x.longest(2, 1, 1), NONE);
        due("value", x.longest(0, 2, 0), BAD);
        due("value", x.longest(0, -1, 0), BAD);
        due("what", x.longest(0, 0, 2), BAD);
        due("what", x.longest(0, 0, -1), BAD);
        due("vector", x.longest(4, 0, 0), BAD);
        due("vector", x.longest(-1, 0, 0), BAD);
    }

    private static void promise32() {
        sentence("promise 32");
        ClassBits x = made("11110000000000000000011", "1100");
        due("2 by 6", x.alike(0, 1, 0), 1);
        due("2 by 6", x.alike(0, 1, 1), 3);
        due("the other way", x.alike(1, 0, 1), 3);
        due("with itself", x.alike(0, 0, 0), 1);
        due("with itself", x.alike(0, 0, 1), 1);
        due("with none", x.alike(0, 2, 0), 0);
        due("with none", x.alike(0, 2, 1), 1);
        due("none", x.alike(2, 3, 0), 0);
        due("none", x.alike(2, 3, 1), 1);
        x.put(1, 2, 1);
        x.put(0, 0, 0);
        due("2 by 6", x.alike(0, 1, 1), 3);
        x.put(1, 3, 1);
        due("3 by 6", x.alike(0, 1, 0), 1);
        due("3 by 6", x.alike(0, 1, 1), 2);
        x.put(0, 0, 1);
        due("4 by 6", x.alike(0, 1, 0), 2);
        due("4 by 6", x.alike(0, 1, 1), 3);
        due("nothing changes", x.ones(1), 4);
        due("what", x.alike(0, 1, 2), BAD);
        due("what", x.alike(0, 1, -1), BAD);
        due("a", x.alike(4, 1, 0), BAD);
        due("a", x.alike(-1, 1, 0), BAD);
        due("b", x.alike(0, 4, 0), BAD);
        due("b", x.alike(0, -1, 0), BAD);
    }

    private static void promise33() {
        sentence("promise 33");
        ClassBits x = made("1101", "01");
        due("1 + 2 + 4", x.weight(0, 1), 7);
        due("-3", x.weight(0, -3), -21);
        due("0", x.weight(0, 0), 0);
        due("none", x.weight(2, MOST), 0);
        due("just", x.weight(1, 1073741823), 2147483646);
        due("a product", x.weight(1, 1073741824), OVER);
        due("its finding", x.status(), 6);
        due("just", x.weight(1, -1073741824), LEAST);
        due("none", x.status(), 0);
        due("a product", x.weight(1, -1073741825), OVER);
        make(x, 3, "11");
        due("just", x.weight(3, 715827882), 2147483646);
        due("a sum", x.weight(3, 715827883), OVER);
        due("a sum", x.weight(3, -715827883), OVER);
        due("least", x.weight(3, LEAST), OVER);
        due("vector", x.weight(4, 1), BAD);
        due("vector", x.weight(-1, 1), BAD);
        due("bad leaves it", x.status(), 6);
    }

    private static void promise34() {
        sentence("promise 34");
        ClassBits x = new ClassBits();
        x.add(0, 0, 126);
        x.add(0, 1, 4);
        x.add(0, 0, 170);
        x.add(0, 1, 1);
        x.row(0, 0, 7);
        x.row(1, 1, 2);
        due("all", x.tell(0, 0, 0, 1), 5);
        x.row(2, 0, 1);
        int[] due = {0, 126, 127, -128, -127, 44, 0};
        for (int i = 0; i < 7; i++) {
            x.copy(0, i, 2, 0, 1);
            int answer = due[i] < 0 ? PLACE : 1;
            due("item " + i, x.take(1, 128, 2, 1), answer);
            due("item " + i, due[i] < 0 ? due[i] : x.get(1, due[i]), due[i] < 0 ? due[i] : 1);
        }
        due("to its end", x.tell(0, 3, 1, 0), 2);
        x.take(1, 301, 1, 2);
        due("129", x.get(1, 129), 1);
        due("300", x.get(1, 300), 1);
        due("from the last on", x.tell(0, 4, 1, 1), 1);
        due("from behind it", x.tell(0, 5, 1, 0), 0);
        due("most", x.tell(0, MOST, 1, 0), 0);
        due("at its end", x.tell(0, 0, 1, 2), 0);
        x.put(0, 0, 1);
        x.row(3, 2, 6);
        x.set(3, 3, 9);
        due("not ahead of i, not beyond its end", x.tell(0, 0, 3, 4), 2);
        x.take(1, 130, 3, 6);
        due("ones", x.ones(1), 3);
        due("the first", x.get(1, 0), 1);
        due("what was there", x.get(1, 9), 1);
        due("the second", x.get(1, 126), 1);
        x.row(3, 2, 5);
        x.set(3, 0, 9);
        due("places of it alone", x.tell(0, 0, 3, 1), 4);
        due("beyond it", x.tell(0, 0, 1, 3), PLACE);
        due("below", x.tell(0, 0, 1, -1), PLACE);
        due("missing", x.tell(0, 0, 5, -1), NULL);
        due("row 8", x.tell(0, 0, 8, 0), BAD);
        due("row -1", x.tell(0, 0, -1, 0), BAD);
        due("k -1", x.tell(0, -1, 5, 0), BAD);
        due("vector", x.tell(4, 0, 1, 0), BAD);
        due("vector", x.tell(-1, 0, 1, 0), BAD);
    }

    private static void promise35() {
        sentence("promise 35");
        ClassBits x = new ClassBits();
        x.add(0, 0, 100);
        due("0 times", x.drawn(0, 0, 1, 0), 0);
        due("once: 16807 by 100 leaves 7", x.drawn(0, 1, 1, 0), 1);
        due("its payload", x.drawn(0, 1, 1, 1), 4);
        due("282475249 by 100 leaves 49", x.drawn(0, 2, 1, 1), 8);
        x.put(0, 7, 1);
        due("it is turned back", x.drawn(0, 1, 1, 0), 0);
        due("nothing changes", x.ones(0), 1);
        due("1622650073 leaves 73", x.drawn(0, 3, 1, 0), 2);
        due("no bits", x.drawn(1, 200, 999999, 0), 0);
        due("no bits", x.drawn(1, 200, 999999, 1), 0);
        x.add(2, 0, 1);
        due("one bit", x.drawn(2, 199, 999999, 0), 1);
        due("one bit", x.drawn(2, 200, 999999, 0), 0);
        due("n 201", x.drawn(0, 201, 1, 0), BAD);
        due("n -1", x.drawn(0, -1, 1, 0), BAD);
        due("seed 0", x.drawn(0, 1, 0, 0), BAD);
        due("seed 1000000", x.drawn(0, 1, 1000000, 0), BAD);
        due("what", x.drawn(0, 1, 1, 2), BAD);
        due("what", x.drawn(0, 1, 1, -1), BAD);
        due("vector", x.drawn(4, 1, 1, 0), BAD);
        due("vector", x.drawn(-1, 1, 1, 0), BAD);
        due("no act", x.count(4), 3);
    }

    private static void promise36And37() {
        sentence("promise 36");
        ClassBits x = made("1101", "01");
        due("image", x.image(1), 4);
        due("-1", x.image(-1), BAD);
        due("2", x.image(2), BAD);
        due("acts stay", x.count(4), 8);
        sentence("promise 37");
        due("none was kept", x.restore(0), STATE);
        due("-1", x.restore(-1), BAD);
        due("2", x.restore(2), BAD);
        due("acts stay", x.count(4), 8);
        x.turn(0);
        x.cut(1, 1);
        x.add(3, 1, 480);
        due("another", x.image(0), 481);
        due("restore", x.restore(1), 4);
        dueBits(x, 0, "1101");
        dueBits(x, 1, "01");
        dueBits(x, 3, "");
        due("no act", x.undo(), STATE);
        x.turn(0);
        due("restore again", x.restore(1), 4);
        dueBits(x, 0, "1101");
        due("the other", x.restore(0), 481);
        dueBits(x, 0, "0010");
        due("kept anew", x.image(1), 481);
        x.cut(3, 0);
        due("restore", x.restore(1), 481);
        due("bits", x.bits(3), 480);
    }

    private static final String FIVE = "z10;o20;t31;a7;b40;";

    private static void promise38() {
        sentence("promise 38");
        ClassBits x = loaded(0, FIVE);
        for (int run = 0; run < 5; run++) {
            due("kind " + run, x.kind(run), run + 1);
        }
        due("run 5", x.kind(5), BAD);
        due("run -1", x.kind(-1), BAD);
        feedAll(x, "b1;");
        x.load(3);
        due("the latest", x.kind(0), 5);
        due("the latest", x.kind(1), BAD);
        feedAll(x, "z1;z");
        x.load(3);
        due("those without a fault", x.kind(0), 5);
        due("run 11", x.kind(11), BAD);
        due("run 12", x.kind(12), BAD);
    }

    private static void promise39() {
        sentence("promise 39");
        ClassBits x = loaded(0, FIVE);
        String[] kinds = {"01", "012", "013", "04", "045"};
        for (int run = 0; run < 5; run++) {
            for (int kind = 0; kind <= 5; kind++) {
                boolean is = kinds[run].indexOf('0' + kind) >= 0;
                due("as " + run + " " + kind, x.as(run, kind), is ? run : KIND);
                due("status", x.status(), is ? 0 : 3);
            }
        }
        due("run 5", x.as(5, 0), BAD);
        due("run -1", x.as(-1, 0), BAD);
        due("kind 6", x.as(0, 6), BAD);
        due("kind -1", x.as(0, -1), BAD);
    }

    private static void dueAsk(ClassBits x, int run, int what, int answer, int... bodies) {
        sentence("promise 40");
        due("ask " + run + " " + what, x.ask(run, what), answer);
        sentence("promise 41");
        for (int i = 0; i < bodies.length; i++) {
            due("trace of " + run + " " + what + " " + i, x.trace(i), bodies[i]);
        }
        due("end of trace", x.trace(bodies.length), NONE);
    }

    private static void promise40And41() {
        ClassBits x = loaded(0, FIVE);
        x.put(0, 0, 1);
        dueAsk(x, 0, 0, 10, 11, 10, 21, 20);
        dueAsk(x, 0, 1, 0, 21, 20);
        dueAsk(x, 1, 0, -(20 + 2 * (1 + 20)), 12, 11, 10, 24, 21, 20);
        dueAsk(x, 1, 1, 2 * (1 + 20), 24, 21, 20);
        dueAsk(x, 2, 0, 31 + 2 + 11 - 1000, 11, 10, 22, 21, 20);
        dueAsk(x, 2, 1, 2 + 11 - 1000, 22, 21, 20);
        dueAsk(x, 3, 0, 7 - 100, 13, 10);
        dueAsk(x, 3, 1, 3 - (7 - 100), 23, 20, 13, 10);
        dueAsk(x, 4, 0, 2 * (40 - 100), 14, 13, 10);
        dueAsk(x, 4, 1, 4 + 120, 23, 20, 14, 13, 10);
        sentence("promise 40");
        due("run 5", x.ask(5, 0), BAD);
        due("run -1", x.ask(-1, 0), BAD);
        due("what", x.ask(0, 2), BAD);
        due("what", x.ask(0, -1), BAD);
        sentence("promise 41");
        due("what is refused leaves it", x.trace(4), 10);
        due("-1", x.trace(-1), NONE);
        due("16", x.trace(16), NONE);
        due("most", x.trace(MOST), NONE);
        due("least", x.trace(LEAST), NONE);
    }

    private static void promise42() {
        sentence("promise 42");
        ClassBits x = loaded(0, "o3;z4;");
        x.row(0, 0, 0);
        x.row(7, 1, 3);
        x.row(3, 1, 3);
        x.drop(3);
        x.add(3, 1, 10);
        x.add(2, 0, 5);
        x.undo();
        x.feed('z');
        int[] due = {2, 2, 17, 13, 2, 1, BAD};
        for (int what = 0; what < 7; what++) {
            due("count " + what, x.count(what), due[what]);
        }
        due("-1", x.count(-1), BAD);
    }

    private static void promise43() {
        sentence("promise 43");
        ClassBits x = loaded(0, "o3;z4;");
        x.row(0, 2, -1);
        due("row", x.status(), 4);
        x.row(0, 2, 41);
        due("bad leaves it", x.status(), 4);
        x.bits(0);
        x.turn(0);
        x.undo();
        x.load(0);
        x.feed('z');
        x.add(0, 1, 480);
        x.restore(0);
        x.image(0);
        x.kind(0);
        x.ask(0, 0);
        x.drawn(0, 1, 1, 0);
        due("others leave it", x.status(), 4);
        x.row(0, 2, 4);
        due("row is fine", x.status(), 0);
        x.set(1, 0, 0);
        due("set", x.status(), 1);
        x.set(0, 0, 0);
        due("set is fine", x.status(), 0);
        x.set(0, 4, 0);
        due("set", x.status(), 2);
        x.copy(0, 0, 0, 1, 2);
        due("copy is fine", x.status(), 0);
        x.row(1, 0, 4);
        x.copy(0, 0, 1, 1, 2);
        due("copy", x.status(), 5);
        x.drop(1);
        due("drop is fine", x.status(), 0);
        x.drop(1);
        due("drop", x.status(), 1);
        x.take(0, 4, 0, 1);
        due("take is fine", x.status(), 0);
        x.take(0, -4, 0, 1);
        due("take", x.status(), 4);
        x.take(0, 4, 0, 41);
        due("bad leaves it", x.status(), 4);
        x.tell(0, 0, 0, 0);
        due("tell is fine", x.status(), 0);
        x.tell(0, 0, 0, 5);
        due("tell", x.status(), 2);
        x.as(0, 2);
        due("as is fine", x.status(), 0);
        x.as(0, 3);
        due("as", x.status(), 3);
        x.weight(0, 1);
        due("weight is fine", x.status(), 0);
        x.add(0, 1, 9);
        x.weight(0, MOST);
        due("weight", x.status(), 6);
    }
}
