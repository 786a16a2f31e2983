import java.lang.reflect.Array;
import java.lang.reflect.Constructor;
import java.lang.reflect.Field;
import java.lang.reflect.Method;
import java.lang.reflect.Modifier;
import java.nio.file.Files;
import java.nio.file.Path;
import java.util.Collections;
import java.util.IdentityHashMap;
import java.util.Set;
import java.util.TreeSet;
import java.util.regex.Matcher;
import java.util.regex.Pattern;

/** The public face is the document's, no more and no less; the source keeps to LANGUAGE.md. */
public final class FaceTest {
    private static final String[] FACE = {
        "int row 3", "int set 3", "int copy 5", "int drop 1", "int feed 1", "int load 1",
        "int fault 0", "int put 3", "int add 3", "int cut 2", "int join 4", "int turn 1",
        "int take 4", "int undo 0", "int bits 1", "int get 2", "int ones 1", "int block 3",
        "int entry 3", "int size 2", "long payload 2", "int choose 2", "int offset 1",
        "int mask 2", "int rank 3", "int select 3", "int next 3", "int last 3",
        "int stretches 1", "int longest 3", "int alike 3", "int weight 2", "int tell 4",
        "int drawn 4", "int image 1", "int restore 1", "int kind 1", "int as 2", "int ask 2",
        "int trace 1", "int count 1", "int status 0",
    };
    private static final String[] FORBIDDEN = {
        "\\bthrow\\b", "\\bthrows\\b", "\\btry\\b", "\\bcatch\\b", "\\bsynchronized\\b",
        "\\bassert\\b", "->", "::", "@", "\\bpackage\\b", "\\w+Exact\\b",
        "\\bjava\\.(?!util\\.Arrays;)", "\\bThread\\b", "\\bRandom\\b", "\\bObject\\b",
        "\\bhashCode\\b", "\\btoString\\b",
    };
    private static final Set<String> LIBRARY = Set.of("Arrays.fill", "System.arraycopy",
            "Math.max", "Math.min", "Integer.bitCount");
    private static final Set<Class<?>> STATIC_TYPES = Set.of(int.class, long.class, boolean.class,
            char.class, String.class, int[].class, long[].class, char[].class, byte[].class);
    private static final int MOST_PARAMETERS = 7;
    private static final int MOST_FIELDS = 20;
    private static final int MOST_LINES = 60;
    private static final int MOST_OBJECTS = 600000;
    private static final int MOST_ELEMENTS = 7300000;
    private static int wrong = 0;

    private static void check(String what, boolean holds) {
        if (!holds) {
            wrong++;
            System.out.println("face: " + what);
        }
    }

    public static void main(String[] args) throws Exception {
        checkMembers();
        checkNested();
        checkSource(Files.readString(Path.of("src/main/java/ClassBits.java")));
        checkRoom();
        if (wrong != 0) {
            System.exit(1);
        }
    }

    private static void checkMembers() throws Exception {
        Class<?> type = ClassBits.class;
        check("final and public", Modifier.isFinal(type.getModifiers())
                && Modifier.isPublic(type.getModifiers()));
        Set<String> due = new TreeSet<>(Set.of(FACE));
        Set<String> there = new TreeSet<>();
        Set<String> hidden = new TreeSet<>();
        for (Method m : type.getDeclaredMethods()) {
            if (Modifier.isPrivate(m.getModifiers())) {
                hidden.add(m.getName());
                continue;
            }
            check(m + " is public, no static", Modifier.isPublic(m.getModifiers())
                    && !Modifier.isStatic(m.getModifiers()));
            for (Class<?> p : m.getParameterTypes()) {
                check(m + " takes ints", p == int.class);
            }
            there.add(m.getReturnType() + " " + m.getName() + " " + m.getParameterCount());
        }
        check("methods " + there + ", due are " + due, there.equals(due));
        for (String face : FACE) {
            check(face + " is the name of a private method", !hidden.contains(face.split(" ")[1]));
        }
        Constructor<?>[] makers = type.getDeclaredConstructors();
        check("one public constructor", makers.length == 1 && makers[0].getParameterCount() == 0
                && Modifier.isPublic(makers[0].getModifiers()));
        checkFields(type);
    }

    private static void checkFields(Class<?> type) throws Exception {
        Set<String> open = new TreeSet<>();
        for (Field f : type.getDeclaredFields()) {
            if (!Modifier.isPrivate(f.getModifiers())) {
                open.add(f.getName() + " " + f.getInt(null));
            }
        }
        Set<String> due = Set.of("NONE -1000000", "BAD -1000001", "STATE -1000002",
                "FULL -1000003");
        check("constants " + open, open.equals(due));
    }

    private static void checkNested() {
        Class<?>[] nested = ClassBits.class.getDeclaredClasses();
        checkMeasures(ClassBits.class);
        check("at most twelve classes", nested.length + 1 <= 12);
        for (Class<?> c : nested) {
            check(c + " is static and not public", Modifier.isStatic(c.getModifiers())
                    && !Modifier.isPublic(c.getModifiers())
                    && !Modifier.isProtected(c.getModifiers()));
            check(c + " has no class inside", c.getDeclaredClasses().length == 0);
            checkMeasures(c);
        }
    }

    private static void checkMeasures(Class<?> type) {
        int fields = 0;
        for (Field f : type.getDeclaredFields()) {
            if (Modifier.isStatic(f.getModifiers())) {
                check(f + " is static, so final", Modifier.isFinal(f.getModifiers()));
                check(f + " is static, so a constant", STATIC_TYPES.contains(f.getType()));
            } else {
                fields++;
            }
        }
        check(type + " has " + fields + " fields", fields <= MOST_FIELDS);
        for (Method m : type.getDeclaredMethods()) {
            check(m + " has few parameters", m.getParameterCount() <= MOST_PARAMETERS);
        }
    }

    private static void checkSource(String text) {
        String code = text.replaceAll("(?s)/\\*.*?\\*/", " ").replaceAll("//[^\n]*", " ");
        for (String word : FORBIDDEN) {
            Matcher m = Pattern.compile(word).matcher(code);
            check("the source has " + word, !m.find());
        }
        Matcher used = Pattern.compile("\\b(Arrays|System|Math|Integer|Long|String|StringBuilder"
                + "|List|ArrayList)\\b(\\.\\w+)?").matcher(code.replaceAll("(?m)^import .*$", ""));
        while (used.find()) {
            check("the source uses " + used.group(), LIBRARY.contains(used.group()));
        }
        checkLengths(text.split("\n"));
        for (int i = 0; i < text.length(); i++) {
            check("a sign beyond 127 at " + i, text.charAt(i) < 128);
        }
    }

    /** A method begins with a line that ends in a bracket, and ends where its indent is back. */
    private static void checkLengths(String[] lines) {
        Pattern begin = Pattern.compile("^( {4}| {8})(?!if|for|while|switch|\\})\\w.*\\) \\{$");
        for (int i = 0; i < lines.length; i++) {
            Matcher m = begin.matcher(lines[i]);
            if (m.matches()) {
                int end = i;
                while (end < lines.length && !lines[end].equals(m.group(1) + "}")) {
                    end++;
                }
                check(lines[i].trim() + " has few lines", end - i < MOST_LINES);
            }
        }
    }

    /**
     * All calls of a run live in one room. What a new object holds, and what it makes by texts (the
     * only calls that make objects: a run takes three bytes at least), must leave room for some
     * thousand objects, each with all its 512 calls.
     */
    private static void checkRoom() throws Exception {
        int[] room = new int[2];
        measure(new ClassBits(), room, Collections.newSetFromMap(new IdentityHashMap<>()));
        int runsMade = 512 / 3;
        int fieldsOfARun = 2;
        check("objects: " + room[0], (room[0] + runsMade) * 1000 < MOST_OBJECTS);
        check("elements: " + room[1], (room[1] + runsMade * fieldsOfARun) * 1000 < MOST_ELEMENTS);
    }

    private static void measure(Object held, int[] room, Set<Object> seen) throws Exception {
        if (held == null || !seen.add(held)) {
            return;
        }
        room[0]++;
        if (held.getClass().isArray()) {
            room[1] += Array.getLength(held);
            for (int i = 0; i < Array.getLength(held) && held instanceof Object[]; i++) {
                measure(Array.get(held, i), room, seen);
            }
            return;
        }
        for (Field f : held.getClass().getDeclaredFields()) {
            if (!Modifier.isStatic(f.getModifiers())) {
                room[1]++;
                f.setAccessible(true);
                if (!f.getType().isPrimitive()) {
                    measure(f.get(held), room, seen);
                }
            }
        }
    }
}
