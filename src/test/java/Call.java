import java.util.Set;
import java.util.StringJoiner;

/** One call of the face with its arguments, so that it can be made on several objects. */
record Call(String name, long... arguments) {
    private static final Set<String> TELLING =
            Set.of("newClass", "newInterface", "array", "box", "make");

    /** Whether the call adds something, if it isn't refused. */
    boolean tells() {
        return TELLING.contains(name);
    }

    /** The answer as a text, or throws.E for an exception E. */
    String answerOf(ConversionTables x) {
        try {
            return Long.toString(valueOf(x));
        } catch (RuntimeException e) {
            return "throws." + e.getClass().getSimpleName();
        }
    }

    private long valueOf(ConversionTables x) {
        int a = numberAt(0);
        int b = numberAt(1);
        int c = numberAt(2);
        switch (name) {
            case "newClass": return x.newClass(a, b, c == 1);
            case "newInterface": return x.newInterface(a, b);
            case "array": return x.array(a);
            case "type": return x.type(a, b);
            case "under": return x.under(a, b);
            case "kind": return x.kind(a, b, c);
            case "given": return x.given(arguments[0], b, c);
            case "targets": return x.targets(a, b);
            case "turned": return x.turned(a, arguments[1], c);
            case "promoted": return x.promoted(a);
            case "both": return x.both(a, b);
            case "conditional": return x.conditional(a, b);
            case "box": return x.box(a, arguments[1]);
            case "make": return x.make(a);
            case "typeOf": return x.typeOf(a);
            case "unboxed": return x.unboxed(a, b);
            case "cast": return x.cast(a, b, c);
            case "count": return x.count(a);
            default: throw new IllegalStateException("no such call: " + name);
        }
    }

    private int numberAt(int place) {
        return place < arguments.length ? (int) arguments[place] : 0;
    }

    @Override
    public String toString() {
        StringJoiner text = new StringJoiner(", ", name + "(", ")");
        for (long argument : arguments) {
            text.add(Long.toString(argument));
        }
        return text.toString();
    }
}
