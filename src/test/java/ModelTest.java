import java.lang.reflect.InvocationTargetException;
import java.lang.reflect.Method;
import java.math.BigInteger;
import java.util.ArrayDeque;
import java.util.ArrayList;
import java.util.Arrays;
import java.util.HashMap;
import java.util.List;
import java.util.Map;
import java.util.Random;

/**
 * Long runs of calls, drawn by fixed seeds, answered by the class and by a plain model that holds
 * each vector as a text of 0 and 1 and finds every answer the slow way.
 */
public final class ModelTest {
    private static final int RUNS = 1500;
    private static final int CALLS = 512;
    private static final int TOLD_AT_MOST = 20;

    /** Each call with what its arguments are about; the number says how often it comes. */
    private static final String[] CALL_TABLE = {
        "5 row row lane items", "5 set row item any", "4 copy row item row item items",
        "1 drop row", "2 feed letter", "1 load vector", "1 fault", "5 put vector place value",
        "4 add vector value many", "2 cut vector place", "4 join four vector vector vector",
        "3 turn vector", "4 take vector place row items", "5 undo", "2 bits vector",
        "2 get vector place", "2 ones vector", "5 block vector block six",
        "3 entry vector entry two", "4 size vector six", "4 payload vector word",
        "1 choose sort sort", "1 offset mask", "1 mask sort offset", "4 rank vector place value",
        "4 select vector place value", "4 next vector place value", "4 last vector place value",
        "3 stretches vector", "4 longest vector value two", "4 alike vector vector two",
        "4 weight vector any", "4 tell vector item row item", "3 drawn vector draws seed two",
        "1 image two", "1 restore two", "2 kind run", "3 as run six", "4 ask run two",
        "4 trace item", "4 count six", "5 status", "6 text vector",
    };

    private final Random random;
    private final ClassBits real = new ClassBits();
    private final Model model = new Model();
    private final StringBuilder said = new StringBuilder();
    private int calls = 0;
    private boolean same = true;

    private ModelTest(long seed) {
        random = new Random(seed);
    }

    public static void main(String[] args) throws Exception {
        List<String[]> table = new ArrayList<>();
        for (String line : CALL_TABLE) {
            String[] words = line.split(" ");
            for (int i = 0; i < Integer.parseInt(words[0]); i++) {
                table.add(words);
            }
        }
        Map<String, Method> reals = methods(ClassBits.class);
        Map<String, Method> models = methods(Model.class);
        int wrong = 0;
        for (int seed = 0; seed < RUNS && wrong < TOLD_AT_MOST; seed++) {
            ModelTest run = new ModelTest(seed);
            while (run.same && run.calls < CALLS) {
                run.step(table.get(run.random.nextInt(table.size())), reals, models);
            }
            if (!run.same) {
                wrong++;
                System.out.println("seed " + seed + ": " + run.said);
            }
        }
        System.out.println(wrong == 0 ? "the model answers alike" : wrong + " runs are not alike");
        if (wrong != 0) {
            System.exit(1);
        }
    }

    private static Map<String, Method> methods(Class<?> type) {
        Map<String, Method> found = new HashMap<>();
        for (Method m : type.getDeclaredMethods()) {
            found.put(m.getName(), m);
        }
        return found;
    }

    private void step(String[] words, Map<String, Method> reals, Map<String, Method> models)
            throws Exception {
        if (words[1].equals("text")) {
            String text = text();
            for (int i = 0; i < text.length() && same && calls < CALLS; i++) {
                call("feed", new Object[] {(int) text.charAt(i)}, reals, models);
            }
            if (same && calls < CALLS) {
                call("load", new Object[] {number("vector")}, reals, models);
            }
            return;
        }
        Object[] numbers = new Object[words.length - 2];
        for (int i = 0; i < numbers.length; i++) {
            numbers[i] = number(words[i + 2]);
        }
        call(words[1], numbers, reals, models);
    }

    private void call(String name, Object[] numbers, Map<String, Method> reals,
            Map<String, Method> models) throws Exception {
        calls++;
        long due = ((Number) models.get(name).invoke(model, numbers)).longValue();
        String got;
        try {
            got = String.valueOf(reals.get(name).invoke(real, numbers));
        } catch (InvocationTargetException e) {
            got = String.valueOf(e.getCause());
        }
        if (!got.equals(String.valueOf(due))) {
            same = false;
            said.append("call ").append(calls).append(": ").append(name)
                    .append(Arrays.toString(numbers)).append(" answered ").append(got)
                    .append(", due is ").append(due);
        }
    }

    private int number(String about) {
        if (random.nextInt(40) == 0) {
            int[] edges = {-1, Integer.MIN_VALUE, Integer.MAX_VALUE, -2, 481, 480, 0};
            return edges[random.nextInt(edges.length)];
        }
        switch (about) {
            case "row":
                return random.nextInt(12) == 0 ? random.nextInt(9) : random.nextInt(4);
            case "lane":
                return random.nextInt(25) == 0 ? 3 : random.nextInt(3);
            case "items":
                return random.nextInt(42) - (random.nextInt(10) == 0 ? 2 : 0);
            case "item":
                return random.nextInt(random.nextBoolean() ? 6 : 42);
            case "any":
                return random.nextInt() >> random.nextInt(32);
            case "letter":
                return random.nextInt(256);
            case "vector":
                return random.nextInt(40) == 0 ? 4 : random.nextInt(4);
            case "value":
                return random.nextInt(20) == 0 ? 2 : random.nextInt(2);
            case "place":
                return place();
            case "many":
                return random.nextInt(random.nextBoolean() ? 40 : 482);
            case "block":
                return random.nextInt(random.nextBoolean() ? 8 : 33);
            case "draws":
                return random.nextInt(202);
            case "seed":
                return random.nextInt(1000001);
            case "mask":
                return random.nextInt(32769);
            case "offset":
                return random.nextInt(6436) >> random.nextInt(13);
            default:
                return random.nextInt(upTo(about));
        }
    }

    private static int upTo(String about) {
        switch (about) {
            case "two":
                return 3;
            case "four":
                return 5;
            case "six":
                return 7;
            case "entry":
                return 9;
            case "word":
                return 8;
            case "sort":
                return 17;
            default:
                return 13;
        }
    }

    /** Often a place at, or beside, the end of a vector. */
    private int place() {
        int length = model.vectors[random.nextInt(4)].length();
        if (random.nextInt(3) == 0) {
            return length - 1 + random.nextInt(3);
        }
        return random.nextInt(random.nextBoolean() ? length + 1 : 481);
    }

    private String text() {
        StringBuilder b = new StringBuilder();
        int runs = 1 + random.nextInt(random.nextInt(3) == 0 ? 14 : 5);
        for (int i = 0; i < runs && b.length() < 57; i++) {
            b.append("zotab".charAt(random.nextInt(5)));
            b.append(random.nextInt(random.nextInt(60) == 0 ? 102 : 99) + 1 - random.nextInt(2));
            b.append(';');
        }
        if (random.nextInt(4) == 0) {
            String odd = "zotabxy,;0019 A\u00ff";
            int at = random.nextInt(b.length());
            char sign = odd.charAt(random.nextInt(odd.length()));
            switch (random.nextInt(3)) {
                case 0:
                    b.setCharAt(at, sign);
                    break;
                case 1:
                    b.insert(at, sign);
                    break;
                default:
                    b.setLength(at);
            }
        }
        return b.toString();
    }

    private static final class Model {
        private static final int NONE = -1000000;
        private static final int BAD = -1000001;
        private static final int STATE = -1000002;
        private static final int FULL = -1000003;

        final String[] vectors = {"", "", "", ""};
        final long[][] rows = new long[8][];
        final int[] lanes = new int[8];
        final ArrayDeque<String[]> acts = new ArrayDeque<>();
        final String[][] images = new String[2][];
        String tape = "";
        String runText = "";
        List<Integer> traced = new ArrayList<>();
        int latestFault = 0;
        int finding = 0;

        private int find(int number) {
            finding = number;
            return -1000010 - number;
        }

        private int fine(int answer) {
            finding = 0;
            return answer;
        }

        private static boolean out(int number, int least, int most) {
            return number < least || number > most;
        }

        private static boolean noVector(int v) {
            return out(v, 0, 3);
        }

        private void act(int vector, String becomes) {
            acts.addLast(vectors.clone());
            if (acts.size() > 12) {
                acts.removeFirst();
            }
            vectors[vector] = becomes;
        }

        private static int tally(String bits, char v) {
            return (int) bits.chars().filter(c -> c == v).count();
        }

        private static long narrow(int lane, long v) {
            int bits = new int[] {8, 16, 32}[lane];
            long low = Math.floorMod(v, 1L << bits);
            return low >= 1L << (bits - 1) ? low - (1L << bits) : low;
        }

        int row(int row, int lane, int n) {
            if (out(row, 0, 7) || out(lane, 0, 2) || n > 40) {
                return BAD;
            }
            if (n < 0) {
                return find(4);
            }
            rows[row] = new long[n];
            lanes[row] = lane;
            return fine(n);
        }

        int set(int row, int i, int v) {
            if (out(row, 0, 7)) {
                return BAD;
            }
            if (rows[row] == null) {
                return find(1);
            }
            if (out(i, 0, rows[row].length - 1)) {
                return find(2);
            }
            rows[row][i] = narrow(lanes[row], v);
            return fine((int) rows[row][i]);
        }

        int copy(int a, int i, int b, int j, int n) {
            if (out(a, 0, 7) || out(b, 0, 7)) {
                return BAD;
            }
            if (rows[a] == null || rows[b] == null) {
                return find(1);
            }
            if (lanes[a] != lanes[b]) {
                return find(5);
            }
            if (i < 0 || j < 0 || n < 0 || (long) i + n > rows[a].length
                    || (long) j + n > rows[b].length) {
                return find(2);
            }
            long[] ahead = rows[a].clone();
            for (int k = 0; k < n; k++) {
                rows[b][j + k] = ahead[i + k];
            }
            return fine(n);
        }

        int drop(int row) {
            if (out(row, 0, 7)) {
                return BAD;
            }
            if (rows[row] == null) {
                return find(1);
            }
            int had = rows[row].length;
            rows[row] = null;
            return fine(had);
        }

        int feed(int letter) {
            if (out(letter, 0, 255)) {
                return BAD;
            }
            if (tape.length() == 60) {
                return FULL;
            }
            tape += (char) letter;
            return tape.length();
        }

        int load(int vector) {
            if (noVector(vector)) {
                return BAD;
            }
            String text = tape;
            tape = "";
            int[] fault = faultOf(text);
            if (fault != null) {
                latestFault = fault[1];
                return -1000100 - fault[0];
            }
            runText = text;
            StringBuilder all = new StringBuilder();
            for (int i = 0; i < runCount(); i++) {
                all.append(runBits(i));
            }
            act(vector, all.toString());
            return all.length();
        }

        /** Cuts the text into tokens first, then looks at each: its place and number, or null. */
        private static int[] faultOf(String text) {
            int sum = 0;
            int at = 0;
            int count = 0;
            while (at < text.length()) {
                int end = at + 1;
                while (Character.isDigit(text.charAt(at)) && end < text.length()
                        && text.charAt(end) >= '0' && text.charAt(end) <= '9') {
                    end++;
                }
                String token = text.substring(at, end);
                String stands = new String[] {"[zotab]", "[0-9][0-9]?", ";"}[count % 3];
                if (!token.matches(stands)) {
                    return new int[] {at, 1};
                }
                if (count % 3 == 0 && count / 3 == 12) {
                    return new int[] {at, 3};
                }
                if (count % 3 == 1) {
                    int number = Integer.parseInt(token);
                    sum += number;
                    if (number == 0 || sum > 480) {
                        return new int[] {at, number == 0 ? 2 : 4};
                    }
                }
                count++;
                at = end;
            }
            return count == 0 || count % 3 != 0 ? new int[] {at, 1} : null;
        }

        private int runCount() {
            return runText.isEmpty() ? 0 : runText.split(";").length;
        }

        private char runSort(int run) {
            return runText.split(";")[run].charAt(0);
        }

        private String runBits(int run) {
            int n = Integer.parseInt(runText.split(";")[run].substring(1));
            String[] patterns = {"z0", "o1", "t100", "a10", "b11110000"};
            for (String p : patterns) {
                if (p.charAt(0) == runSort(run)) {
                    return p.substring(1).repeat(n).substring(0, n);
                }
            }
            return null;
        }

        int fault() {
            return latestFault;
        }

        int put(int vector, int i, int v) {
            if (noVector(vector) || out(i, 0, vectors[vector].length() - 1) || out(v, 0, 1)) {
                return BAD;
            }
            String old = vectors[vector];
            act(vector, old.substring(0, i) + v + old.substring(i + 1));
            return old.charAt(i) - '0';
        }

        int add(int vector, int v, int n) {
            if (noVector(vector) || out(v, 0, 1) || out(n, 1, 480)) {
                return BAD;
            }
            if (vectors[vector].length() + n > 480) {
                return FULL;
            }
            act(vector, vectors[vector] + String.valueOf(v).repeat(n));
            return vectors[vector].length();
        }

        int cut(int vector, int n) {
            if (noVector(vector) || out(n, 0, vectors[vector].length())) {
                return BAD;
            }
            int had = vectors[vector].length();
            act(vector, vectors[vector].substring(0, n));
            return had;
        }

        private String joined(int how, int a, int b) {
            StringBuilder c = new StringBuilder();
            int most = Math.max(vectors[a].length(), vectors[b].length());
            for (int i = 0; i < most; i++) {
                boolean p = i < vectors[a].length() && vectors[a].charAt(i) == '1';
                boolean q = i < vectors[b].length() && vectors[b].charAt(i) == '1';
                boolean[] results = {p && q, p || q, p != q, p && !q};
                c.append(results[how] ? '1' : '0');
            }
            return c.toString();
        }

        int join(int how, int a, int b, int c) {
            if (out(how, 0, 3) || noVector(a) || noVector(b) || noVector(c)) {
                return BAD;
            }
            act(c, joined(how, a, b));
            return tally(vectors[c], '1');
        }

        int turn(int vector) {
            if (noVector(vector)) {
                return BAD;
            }
            act(vector, vectors[vector].replace('0', 'x').replace('1', '0').replace('x', '1'));
            return tally(vectors[vector], '1');
        }

        int take(int vector, int n, int row, int many) {
            if (noVector(vector) || out(row, 0, 7) || n > 480 || many > 40) {
                return BAD;
            }
            if (n < 0) {
                return find(4);
            }
            if (rows[row] == null) {
                return find(1);
            }
            if (out(many, 0, rows[row].length)) {
                return find(2);
            }
            StringBuilder b = new StringBuilder("0".repeat(n));
            for (int i = 0; i < many; i++) {
                if (rows[row][i] < 0 || rows[row][i] >= n) {
                    return find(2);
                }
                b.setCharAt((int) rows[row][i], '1');
            }
            act(vector, b.toString());
            return fine(tally(vectors[vector], '1'));
        }

        int undo() {
            if (acts.isEmpty()) {
                return STATE;
            }
            System.arraycopy(acts.removeLast(), 0, vectors, 0, 4);
            return acts.size();
        }

        int bits(int vector) {
            return noVector(vector) ? BAD : vectors[vector].length();
        }

        int get(int vector, int i) {
            if (noVector(vector) || out(i, 0, vectors[vector].length() - 1)) {
                return BAD;
            }
            return vectors[vector].charAt(i) - '0';
        }

        int ones(int vector) {
            return noVector(vector) ? BAD : tally(vectors[vector], '1');
        }

        private static List<Integer> masks(String bits) {
            List<Integer> found = new ArrayList<>();
            for (int i = 0; i < bits.length(); i += 15) {
                String part = bits.substring(i, Math.min(bits.length(), i + 15));
                found.add(Integer.parseInt(new StringBuilder(part).reverse().toString(), 2));
            }
            return found;
        }

        private static int offsetBelow(int mask) {
            int below = 0;
            for (int m = 0; m < mask; m++) {
                below += Integer.bitCount(m) == Integer.bitCount(mask) ? 1 : 0;
            }
            return below;
        }

        private static int widthOf(int sort) {
            int greatest = ((1 << sort) - 1) << (15 - sort);
            int offset = OFFSETS[greatest];
            return offset == 0 ? 0 : Integer.toBinaryString(offset).length();
        }

        private static final int[] OFFSETS = offsets();

        private static int[] offsets() {
            int[] all = new int[32768];
            int[] seen = new int[16];
            for (int m = 0; m < 32768; m++) {
                all[m] = seen[Integer.bitCount(m)]++;
            }
            return all;
        }

        private static int begin(String bits, int block) {
            int sum = 0;
            for (int mask : masks(bits).subList(0, block)) {
                sum += widthOf(Integer.bitCount(mask));
            }
            return sum;
        }

        int block(int vector, int block, int what) {
            if (noVector(vector) || out(what, 0, 4)
                    || out(block, 0, masks(vectors[vector]).size() - 1)) {
                return BAD;
            }
            int mask = masks(vectors[vector]).get(block);
            int sort = Integer.bitCount(mask);
            return new int[] {sort, offsetBelow(mask), widthOf(sort), mask,
                begin(vectors[vector], block)}[what];
        }

        int entry(int vector, int entry, int what) {
            if (noVector(vector) || out(what, 0, 1) || out(entry, 0, 7)
                    || 4 * entry >= masks(vectors[vector]).size()) {
                return BAD;
            }
            return what == 0 ? tally(vectors[vector].substring(0, 60 * entry), '1')
                    : begin(vectors[vector], 4 * entry);
        }

        int size(int vector, int what) {
            if (noVector(vector) || out(what, 0, 4)) {
                return BAD;
            }
            int blocks = masks(vectors[vector]).size();
            int entries = 0;
            for (int b = 0; b < blocks; b += 4) {
                entries++;
            }
            int payload = begin(vectors[vector], blocks);
            return new int[] {payload, 4 * blocks, 18 * entries,
                payload + 4 * blocks + 18 * entries, 15 * blocks}[what];
        }

        long payload(int vector, int k) {
            if (noVector(vector) || out(k, 0, 6)) {
                return BAD;
            }
            BigInteger all = BigInteger.ZERO;
            List<Integer> masks = masks(vectors[vector]);
            for (int b = masks.size() - 1; b >= 0; b--) {
                all = all.shiftLeft(widthOf(Integer.bitCount(masks.get(b))))
                        .add(BigInteger.valueOf(OFFSETS[masks.get(b)]));
            }
            return all.shiftRight(64 * k).longValue();
        }

        int choose(int n, int k) {
            if (out(n, 0, 15) || out(k, 0, 15)) {
                return BAD;
            }
            int found = 0;
            for (int m = 0; m < 1 << n; m++) {
                found += Integer.bitCount(m) == k ? 1 : 0;
            }
            return found;
        }

        int offset(int mask) {
            return out(mask, 0, 32767) ? BAD : offsetBelow(mask);
        }

        int mask(int sort, int offset) {
            for (int m = 0; m < 32768; m++) {
                if (Integer.bitCount(m) == sort && OFFSETS[m] == offset) {
                    return m;
                }
            }
            return BAD;
        }

        private boolean noPlace(int vector, int place, int v) {
            return noVector(vector) || out(place, 0, vectors[vector].length()) || out(v, 0, 1);
        }

        int rank(int vector, int place, int v) {
            if (noPlace(vector, place, v)) {
                return BAD;
            }
            return tally(vectors[vector].substring(0, place), (char) ('0' + v));
        }

        int select(int vector, int k, int v) {
            if (noVector(vector) || k < 0 || out(v, 0, 1)) {
                return BAD;
            }
            int at = -1;
            for (int i = 0; i <= k; i++) {
                at = vectors[vector].indexOf('0' + v, at + 1);
                if (at < 0) {
                    return NONE;
                }
            }
            return at;
        }

        int next(int vector, int place, int v) {
            if (noPlace(vector, place, v)) {
                return BAD;
            }
            int at = vectors[vector].indexOf('0' + v, place);
            return at < 0 ? NONE : at;
        }

        int last(int vector, int place, int v) {
            if (noPlace(vector, place, v)) {
                return BAD;
            }
            int at = vectors[vector].substring(0, place).lastIndexOf('0' + v);
            return at < 0 ? NONE : at;
        }

        int stretches(int vector) {
            if (noVector(vector)) {
                return BAD;
            }
            return vectors[vector].replaceAll("0+", "a").replaceAll("1+", "a").length();
        }

        int longest(int vector, int v, int what) {
            if (noVector(vector) || out(v, 0, 1) || out(what, 0, 1)) {
                return BAD;
            }
            int most = 0;
            while (vectors[vector].contains(String.valueOf(v).repeat(most + 1))) {
                most++;
            }
            if (what == 0) {
                return most;
            }
            return most == 0 ? NONE : vectors[vector].indexOf(String.valueOf(v).repeat(most));
        }

        int alike(int a, int b, int what) {
            if (noVector(a) || noVector(b) || out(what, 0, 1)) {
                return BAD;
            }
            int both = tally(joined(0, a, b), '1');
            int any = Math.max(1, tally(joined(1, a, b), '1'));
            int common = BigInteger.valueOf(both).gcd(BigInteger.valueOf(any)).intValue();
            return (what == 0 ? both : any) / common;
        }

        int weight(int vector, int w) {
            if (noVector(vector)) {
                return BAD;
            }
            int sum = 0;
            try {
                for (int i = 0; i < vectors[vector].length(); i++) {
                    if (vectors[vector].charAt(i) == '1') {
                        sum = Math.addExact(sum, Math.multiplyExact(i + 1, w));
                    }
                }
            } catch (ArithmeticException over) {
                return find(6);
            }
            return fine(sum);
        }

        int tell(int vector, int k, int row, int i) {
            if (noVector(vector) || k < 0 || out(row, 0, 7)) {
                return BAD;
            }
            if (rows[row] == null) {
                return find(1);
            }
            if (out(i, 0, rows[row].length)) {
                return find(2);
            }
            List<Integer> places = new ArrayList<>();
            for (int p = 0; p < vectors[vector].length(); p++) {
                if (vectors[vector].charAt(p) == '1') {
                    places.add(p);
                }
            }
            int told = 0;
            for (int p = k; p < places.size() && i + told < rows[row].length; p++) {
                rows[row][i + told] = narrow(lanes[row], places.get(p));
                told++;
            }
            return fine(told);
        }

        int drawn(int vector, int n, int seed, int what) {
            if (noVector(vector) || out(n, 0, 200) || out(seed, 1, 999999) || out(what, 0, 1)) {
                return BAD;
            }
            char[] bits = vectors[vector].toCharArray();
            BigInteger x = BigInteger.valueOf(seed);
            for (int i = 0; i < n && bits.length > 0; i++) {
                x = x.multiply(BigInteger.valueOf(16807)).mod(BigInteger.valueOf(2147483647));
                int at = x.mod(BigInteger.valueOf(bits.length)).intValue();
                bits[at] = bits[at] == '0' ? '1' : '0';
            }
            String then = new String(bits);
            return what == 0 ? tally(then, '1') : begin(then, masks(then).size());
        }

        int image(int k) {
            if (out(k, 0, 1)) {
                return BAD;
            }
            images[k] = vectors.clone();
            return count(3);
        }

        int restore(int k) {
            if (out(k, 0, 1)) {
                return BAD;
            }
            if (images[k] == null) {
                return STATE;
            }
            System.arraycopy(images[k], 0, vectors, 0, 4);
            acts.clear();
            return count(3);
        }

        int kind(int run) {
            return out(run, 0, runCount() - 1) ? BAD : " zotab".indexOf(runSort(run));
        }

        int as(int run, int kind) {
            if (out(run, 0, runCount() - 1) || out(kind, 0, 5)) {
                return BAD;
            }
            String[] are = {"", "01", "012", "013", "04", "045"};
            return are[kind(run)].indexOf('0' + kind) < 0 ? find(3) : fine(run);
        }

        /** Sums and bodies written out for each kind, in place of one body calling another. */
        int ask(int run, int what) {
            if (out(run, 0, runCount() - 1) || out(what, 0, 1)) {
                return BAD;
            }
            int n = runBits(run).length();
            int ones = tally(runBits(run), '1');
            Integer[][] bodies = {
                {11, 10, 21, 20}, {21, 20}, {12, 11, 10, 24, 21, 20}, {24, 21, 20},
                {11, 10, 22, 21, 20}, {22, 21, 20}, {13, 10}, {23, 20, 13, 10},
                {14, 13, 10}, {23, 20, 14, 13, 10},
            };
            int[] answers = {
                n + run, run, -n - 2 * run - 2 * n, 2 * run + 2 * n,
                n + run + ones - 1000, run + ones - 1000, n - 100, run - n + 100,
                2 * n - 200, run - 2 * n + 200,
            };
            int which = 2 * (kind(run) - 1) + what;
            traced = Arrays.asList(bodies[which]);
            return answers[which];
        }

        int trace(int i) {
            return out(i, 0, traced.size() - 1) ? NONE : traced.get(i);
        }

        int count(int what) {
            String all = String.join("", vectors);
            switch (what) {
                case 0:
                    int there = 0;
                    for (long[] row : rows) {
                        there += row == null ? 0 : 1;
                    }
                    return there;
                case 1:
                    return runCount();
                case 2:
                    return all.length();
                case 3:
                    return tally(all, '1');
                case 4:
                    return acts.size();
                case 5:
                    return tape.length();
                default:
                    return BAD;
            }
        }

        int status() {
            return finding;
        }
    }
}
