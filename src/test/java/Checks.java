import java.util.HashSet;
import java.util.Set;

/** What the tests share: the sentence at hand, what is due, vectors from texts. */
abstract class Checks {
    static final int NONE = -1000000;
    static final int BAD = -1000001;
    static final int STATE = -1000002;
    static final int FULL = -1000003;
    static final int FINDINGS = -1000010;
    static final int NULL = -1000011;
    static final int PLACE = -1000012;
    static final int KIND = -1000013;
    static final int SIZE = -1000014;
    static final int STORE = -1000015;
    static final int OVER = -1000016;
    static final int FAULT = -1000100;
    static final int LEAST = Integer.MIN_VALUE;
    static final int MOST = Integer.MAX_VALUE;

    private static String sentence = "";
    private static final Set<String> SENTENCES = new HashSet<>();
    private static int wrong = 0;

    /** Names the words of the document that the next answers are due by. */
    static void sentence(String words) {
        sentence = words;
        SENTENCES.add(words);
    }

    static void due(String call, long got, long want) {
        if (got != want) {
            fail(call + " answered " + got + ", due is " + want);
        }
    }

    static void dueBits(ClassBits x, int vector, String want) {
        String got = told(x, vector);
        if (!got.equals(want)) {
            fail("vector " + vector + " is " + got + ", due is " + want);
        }
    }

    static void fail(String what) {
        wrong++;
        System.out.println("\"" + sentence + "\": " + what);
    }

    static void end() {
        System.out.println(SENTENCES.size() + " sentences, " + wrong + " answers that are not due");
        if (wrong != 0) {
            System.exit(1);
        }
    }

    static void feedAll(ClassBits x, String text) {
        for (int i = 0; i < text.length(); i++) {
            x.feed(text.charAt(i));
        }
    }

    static int read(ClassBits x, int vector, String text) {
        feedAll(x, text);
        return x.load(vector);
    }

    /** The bits, told as a text of 0 and 1. */
    static String told(ClassBits x, int vector) {
        StringBuilder b = new StringBuilder();
        int many = x.bits(vector);
        for (int i = 0; i < many; i++) {
            b.append(x.get(vector, i));
        }
        return b.toString();
    }

    /** Puts bits behind a vector, one act for each stretch of like ones. */
    static void addAll(ClassBits x, int vector, String bits) {
        int begin = 0;
        for (int i = 1; i <= bits.length(); i++) {
            if (i == bits.length() || bits.charAt(i) != bits.charAt(begin)) {
                x.add(vector, bits.charAt(begin) - '0', i - begin);
                begin = i;
            }
        }
    }

    /** A new object whose vectors 0, 1, .. have these bits. */
    static ClassBits with(String... bits) {
        ClassBits x = new ClassBits();
        for (int v = 0; v < bits.length; v++) {
            addAll(x, v, bits[v]);
        }
        return x;
    }
}
