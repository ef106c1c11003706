import java.io.IOException;
import java.lang.reflect.InvocationTargetException;
import java.lang.reflect.Method;
import java.util.ArrayList;
import java.util.List;
import java.util.Set;

/**
 * The document's first words, "Conversions of Java": the class beside what javac allows and what
 * Java does as it runs, with the same TYPES. Where the document goes its own way (the contexts TEXT
 * and NUMERIC; Object for two REFERENCES of which none is UNDER the other) Java is not asked, nor
 * for what it has no name, as a variable of null.
 */
public final class JavaItselfTest implements Names {
    private static final int FACE = 23, TWO_FACES = 24, OPEN = 25, FIRST_ARRAY = 29;

    /** The TYPES in Java, in the document's row; behind null are those told. */
    private static final List<String> NAMES = List.of(
            "boolean", "char", "byte", "short", "int", "long", "float", "double",
            "Boolean", "Character", "Byte", "Short", "Integer", "Long", "Float", "Double",
            "Object", "Number", "Comparable", "java.io.Serializable", "Cloneable", "String", "null",
            "Face", "TwoFaces", "Open", "OpenFace", "Closed", "ClosedFaces",
            "int[]", "Object[]", "Open[]", "Closed[]", "Face[]", "int[][]", "Open[][]", "Face[][]",
            "Cloneable[]", "Integer[]", "long[]");
    private static final int TYPES = NAMES.size();

    private static final List<String> TOLD = List.of(
            "interface Face {}",
            "interface TwoFaces extends Face, Comparable {}",
            "class Open {}",
            "class OpenFace extends Open implements Face {}",
            "final class Closed extends Open {}",
            "final class ClosedFaces implements TwoFaces {",
            "    public int compareTo(Object o) { return 0; } }");

    /** Of each PRIMITIVE type one that its BOX can be made of, too. */
    private static final String[] SAMPLES = {"true", "(char) 1", "(byte) 1", "(short) 1", "1", "1L",
        "Float.MIN_VALUE", "Double.MIN_VALUE"};
    private static final long SAMPLE_BITS = 1;

    private static final long[] CONSTANTS = {-2147483648L, -32769, -32768, -129, -128, -1, 0, 1,
        127, 128, 255, 256, 32767, 32768, 65535, 65536, 2147483647L};

    private static final Checks CHECKS = new Checks();

    public static void main(String[] args) throws IOException, ReflectiveOperationException {
        boolean[][] assigned = allowedByJavac("%1$s y = %2$s;");
        boolean[][] cast = allowedByJavac("%1$s y = (%1$s) %2$s;");
        kinds(assigned, LOOSE);
        kinds(assigned, GIVING);
        kinds(cast, CASTING);
        constants();
        typesOfExpressions(assigned);
        castsThatRun(cast);
        CHECKS.end();
    }

    /** A new object with the TYPES told. */
    private static ConversionTables told() {
        ConversionTables x = new ConversionTables();
        x.newInterface(NONE, NONE);
        x.newInterface(FACE, COMPARABLE);
        x.newClass(NONE, NONE, false);
        x.newClass(OPEN, FACE, false);
        x.newClass(OPEN, NONE, true);
        x.newClass(NONE, TWO_FACES, true);
        for (String array : NAMES.subList(FIRST_ARRAY, TYPES)) {
            x.array(NAMES.indexOf(array.substring(0, array.length() - 2)));
        }
        return x;
    }

    private static boolean isBox(int t) {
        return t >= BOOLEAN_BOX && t <= DOUBLE_BOX;
    }

    private static boolean isNumberOrItsBox(int t) {
        return t <= DOUBLE_BOX && t != BOOLEAN && t != BOOLEAN_BOX;
    }

    private static boolean canBeMade(int t) {
        return isBox(t) || t == OBJECT || t == STRING || t == NULL || t >= OPEN;
    }

    /** A class Asked with these members, a variable v0, v1 .. of each TYPE, and the TYPES told. */
    private static Javac javac(List<String> members) {
        List<String> lines = new ArrayList<>();
        lines.add("@SuppressWarnings({\"rawtypes\", \"unchecked\"}) public class Asked {");
        for (int t = 0; t < TYPES; t++) {
            if (t != NULL) {
                String first = t <= DOUBLE_BOX ? SAMPLES[t % SAMPLES.length] : "null";
                lines.add("static " + NAMES.get(t) + " v" + t + " = " + first + ";");
            }
        }
        lines.addAll(members);
        lines.add("}");
        lines.addAll(TOLD);
        return new Javac("Asked", lines);
    }

    private static String value(int t) {
        return t == NULL ? "null" : "v" + t;
    }

    private static boolean[][] allowedByJavac(String statement) throws IOException {
        List<String> lines = new ArrayList<>();
        for (int from = 0; from < TYPES; from++) {
            for (String to : NAMES) {
                lines.add("{ " + String.format(statement, to, value(from)) + " }");
            }
        }
        List<String> members = new ArrayList<>(lines);
        members.removeIf(line -> line.startsWith("{ null "));
        Set<String> refused = javac(members).refused();
        boolean[][] allowed = new boolean[TYPES][TYPES];
        for (int i = 0; i < lines.size(); i++) {
            allowed[i / TYPES][i % TYPES] = i % TYPES != NULL && !refused.contains(lines.get(i));
        }
        return allowed;
    }

    private static void kinds(boolean[][] allowed, int context) {
        for (int from = 0; from < TYPES; from++) {
            ConversionTables x = told();
            for (int to = 0; to < TYPES; to++) {
                if (to != NULL) {
                    String pair = NAMES.get(from) + " to " + NAMES.get(to);
                    int got = Math.min(x.kind(from, to, context), 1);
                    CHECKS.due("whether context " + context + " has a kind from " + pair, got,
                            allowed[from][to] ? 1 : 0);
                }
            }
        }
    }

    private static void constants() throws IOException {
        List<String> lines = new ArrayList<>();
        List<Integer> got = new ArrayList<>();
        for (long v : CONSTANTS) {
            for (int from = CHAR; from <= LONG; from++) {
                boolean isOne = v >= Names.ends(from)[0] && v <= Names.ends(from)[1];
                for (int to = 0; isOne && to < TYPES; to++) {
                    if (to != NULL) {
                        String constant = "(" + NAMES.get(from) + ") " + v;
                        lines.add("{ " + NAMES.get(to) + " y = " + constant + "; }");
                        got.add(told().given(v, from, to));
                    }
                }
            }
        }
        Set<String> refused = javac(lines).refused();
        for (int i = 0; i < lines.size(); i++) {
            String line = lines.get(i);
            CHECKS.due("given, as " + line, got.get(i), refused.contains(line) ? 0 : 1);
        }
    }

    /** Java tells the type of +a, a + b, no ? a : b by the method of() that it chooses for it. */
    private static void typesOfExpressions(boolean[][] assigned)
            throws IOException, ReflectiveOperationException {
        List<String> expressions = new ArrayList<>();
        List<Integer> got = new ArrayList<>();
        for (int a = 0; a < TYPES; a++) {
            if (isNumberOrItsBox(a)) {
                expressions.add("+" + value(a));
                got.add(told().promoted(a));
            }
            for (int b = 0; b < TYPES; b++) {
                boolean numbers = isNumberOrItsBox(a) && isNumberOrItsBox(b);
                if (numbers) {
                    expressions.add(value(a) + " + " + value(b));
                    got.add(told().both(a, b));
                }
                if (numbers || assigned[a][b] || assigned[b][a]) {
                    expressions.add("no ? " + value(a) + " : " + value(b));
                    got.add(told().conditional(a, b));
                }
            }
        }
        List<Integer> due = typesByJava(expressions);
        for (int i = 0; i < expressions.size(); i++) {
            CHECKS.due("the type of " + expressions.get(i), got.get(i), due.get(i));
        }
    }

    private static List<Integer> typesByJava(List<String> expressions)
            throws IOException, ReflectiveOperationException {
        List<String> members = new ArrayList<>(List.of("static boolean no = false;"));
        for (int t = 0; t < TYPES; t++) {
            if (t != NULL) {
                members.add("static int of(" + NAMES.get(t) + " x) { return " + t + "; }");
            }
        }
        for (int i = 0; i < expressions.size(); i++) {
            members.add("public static int e" + i + "() { var z = " + expressions.get(i)
                    + "; return of(z); }");
        }
        Class<?> asked = javac(members).loaded();
        List<Integer> types = new ArrayList<>();
        for (int i = 0; i < expressions.size(); i++) {
            types.add((Integer) asked.getMethod("e" + i).invoke(null));
        }
        return types;
    }

    private static void castsThatRun(boolean[][] cast)
            throws IOException, ReflectiveOperationException {
        List<String> members = new ArrayList<>();
        for (int as = BOOLEAN_BOX; as < TYPES; as++) {
            for (int to = 0; to < TYPES; to++) {
                if (as != NULL && to != NULL) {
                    String start = "public static void from" + as + "to" + to;
                    String type = NAMES.get(to);
                    String body = cast[as][to] ? type + " y = (" + type + ") x;" : "";
                    members.add(start + "(" + NAMES.get(as) + " x) { " + body + " }");
                }
            }
        }
        for (int t = BOOLEAN_BOX; t < TYPES; t++) {
            members.add("public static Object o" + t + " = " + newObject(t) + ";");
        }
        Class<?> asked = javac(members).loaded();
        for (Method method : asked.getMethods()) {
            if (method.getName().startsWith("from")) {
                String[] types = method.getName().split("from|to");
                int as = Integer.parseInt(types[1]);
                int to = Integer.parseInt(types[2]);
                castsThatRun(method, as, to, cast[as][to]);
            }
        }
    }

    private static String newObject(int t) {
        if (!canBeMade(t) || t <= DOUBLE_BOX || t == NULL) {
            return value(t);
        }
        String name = NAMES.get(t);
        return "new " + (t < FIRST_ARRAY ? name + "()" : name.replaceFirst("\\[]", "[0]"));
    }

    private static void castsThatRun(Method method, int as, int to, boolean compiles)
            throws ReflectiveOperationException {
        ConversionTables x = told();
        for (int t = BOOLEAN_BOX; t < TYPES; t++) {
            if (canBeMade(t)) {
                int object = isBox(t) ? x.box(t, SAMPLE_BITS) : x.make(t);
                Object real = method.getDeclaringClass().getField("o" + t).get(null);
                String call = NAMES.get(t) + " held as " + NAMES.get(as) + " to " + NAMES.get(to);
                CHECKS.due("cast of " + call, x.cast(object, as, to),
                        compiles ? castByJava(method, real) : OUTSIDE);
            }
        }
    }

    private static int castByJava(Method method, Object real) throws ReflectiveOperationException {
        if (real != null && !method.getParameterTypes()[0].isInstance(real)) {
            return OUTSIDE;
        }
        try {
            method.invoke(null, real);
            return 1;
        } catch (InvocationTargetException e) {
            if (e.getCause() instanceof NullPointerException) {
                return 2;
            }
            if (e.getCause() instanceof ClassCastException) {
                return 0;
            }
            throw e;
        }
    }
}
