import java.io.IOException;
import java.nio.file.Files;
import java.nio.file.Path;
import java.util.ArrayList;
import java.util.List;
import java.util.regex.Matcher;
import java.util.regex.Pattern;

/** What README.md says that calls answer. */
public final class ReadmeTest {
    private static final Pattern EXAMPLE = Pattern.compile("```java\n(.*?)```", Pattern.DOTALL);

    /** An answer that is kept by name or not, and behind it the one that is due. */
    private static final Pattern LINE =
            Pattern.compile("(?:int (\\w+) = )?(x\\..*); +// (-?\\d+|throws \\w+)(?:: .*)?");

    public static void main(String[] args) throws IOException, ReflectiveOperationException {
        Checks checks = new Checks();
        List<Matcher> calls = new ArrayList<>();
        for (String line : example()) {
            Matcher call = LINE.matcher(line);
            boolean first = line.equals("ConversionTables x = new ConversionTables();");
            checks.due(line + ": can be read", first || call.matches() ? "yes" : "no", "yes");
            if (call.matches()) {
                calls.add(call);
            }
        }
        List<?> got = (List<?>) program(calls).getMethod("answers").invoke(null);
        for (int i = 0; i < calls.size(); i++) {
            Matcher call = calls.get(i);
            checks.due("README.md: " + call.group(2), "" + got.get(i), call.group(3));
        }
        checks.end();
    }

    private static List<String> example() throws IOException {
        Matcher found = EXAMPLE.matcher(Files.readString(Path.of("README.md")));
        return found.find() ? found.group(1).lines().toList() : List.of();
    }

    private static Class<?> program(List<Matcher> calls)
            throws IOException, ClassNotFoundException {
        List<String> lines = new ArrayList<>(List.of(
                "import java.util.*;",
                "public class Example {",
                "    public static List<String> answers() {",
                "        List<String> got = new ArrayList<>();",
                "        ConversionTables x = new ConversionTables();"));
        for (Matcher call : calls) {
            if (call.group(1) != null) {
                lines.add("int " + call.group(1) + " = " + call.group(2) + ";");
            }
            String answer = call.group(1) == null ? call.group(2) : call.group(1);
            lines.add("try { got.add(\"\" + " + answer + "); } catch (RuntimeException e) {"
                    + " got.add(\"throws \" + e.getClass().getSimpleName()); }");
        }
        lines.add("return got; } }");
        return new Javac("Example", lines).loaded();
    }
}
