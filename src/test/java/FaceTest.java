import java.lang.reflect.Constructor;
import java.lang.reflect.Field;
import java.lang.reflect.Method;
import java.lang.reflect.Modifier;
import java.util.Arrays;
import java.util.TreeSet;

/** The document's face and nothing else is seen from outside. */
public final class FaceTest {
    private static final String[] FACE = {
        "int newClass(int,int,boolean)", "int newInterface(int,int)", "int array(int)",
        "int type(int,int)", "int under(int,int)", "int kind(int,int,int)",
        "int given(long,int,int)", "int targets(int,int)", "long turned(int,long,int)",
        "int promoted(int)", "int both(int,int)", "int conditional(int,int)",
        "int box(int,long)", "int make(int)", "int typeOf(int)",
        "long unboxed(int,int) ClassCastException NullPointerException",
        "int cast(int,int,int)", "int count(int)",
        "static int BAD = -1", "static int OUTSIDE = -2", "static int FULL = -3",
        "ConversionTables()"
    };

    public static void main(String[] args) throws IllegalAccessException {
        Checks checks = new Checks();
        TreeSet<String> seen = new TreeSet<>();
        TreeSet<String> hidden = new TreeSet<>();
        TreeSet<String> open = new TreeSet<>();
        for (Method m : ConversionTables.class.getDeclaredMethods()) {
            if (Modifier.isPrivate(m.getModifiers())) {
                hidden.add(m.getName());
            } else {
                open.add(m.getName());
                seen.add(textOf(m));
            }
        }
        for (Field f : ConversionTables.class.getDeclaredFields()) {
            if (!Modifier.isPrivate(f.getModifiers())) {
                seen.add("static " + f.getType() + " " + f.getName() + " = " + f.getInt(null));
            }
        }
        for (Constructor<?> c : ConversionTables.class.getDeclaredConstructors()) {
            seen.add(c.getName() + textOf(c.getParameterTypes()));
        }
        checks.due("the face", seen.toString(), new TreeSet<>(Arrays.asList(FACE)).toString());
        hidden.retainAll(open);
        checks.due("private methods with public names", hidden.toString(), "[]");
        checks.due("modifiers", ConversionTables.class.getModifiers(),
                Modifier.PUBLIC | Modifier.FINAL);
        checks.end();
    }

    private static String textOf(Method m) {
        StringBuilder text = new StringBuilder();
        text.append(m.getReturnType()).append(' ').append(m.getName());
        text.append(textOf(m.getParameterTypes()));
        for (Class<?> thrown : m.getExceptionTypes()) {
            text.append(' ').append(thrown.getSimpleName());
        }
        return text.toString();
    }

    private static String textOf(Class<?>[] parameters) {
        StringBuilder text = new StringBuilder("(");
        for (Class<?> parameter : parameters) {
            text.append(text.length() == 1 ? "" : ",").append(parameter);
        }
        return text.append(')').toString();
    }
}
