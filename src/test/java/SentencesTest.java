import java.io.File;
import java.io.IOException;
import java.lang.reflect.Method;
import java.nio.file.Files;
import java.nio.file.Path;
import java.util.Arrays;
import java.util.List;

/** The words that the cases quote stand in the document, and each of its promises has cases. */
public final class SentencesTest {
    private static final Path DOCUMENT = Path.of("../shared/DOC.md");
    private static final File TESTS = new File("src/test/java");
    private static final int PROMISES = 19;

    public static void main(String[] args) throws IOException, ClassNotFoundException {
        Checks checks = new Checks();
        String document = words();
        for (int promise = 1; promise <= PROMISES; promise++) {
            int cases = 0;
            for (String name : testsOf(promise)) {
                cases += quoted(checks, Class.forName(name), document);
            }
            checks.due("promise " + promise + ": has cases", cases > 0 ? "yes" : "no", "yes");
        }
        checks.end();
    }

    // Without the document the class can still be held to its cases, so that alone is no fault.
    private static String words() throws IOException {
        if (!Files.isReadable(DOCUMENT)) {
            System.out.println(DOCUMENT + " is not here: no words are compared");
            return "";
        }
        return Files.readString(DOCUMENT).replaceAll("\\s+", " ");
    }

    private static List<String> testsOf(int promise) {
        String start = String.format("Promise%02d", promise);
        String[] files = TESTS.list((directory, name) -> name.startsWith(start));
        return files == null ? List.of()
                : Arrays.stream(files).map(name -> name.replace(".java", "")).sorted().toList();
    }

    private static int quoted(Checks checks, Class<?> test, String document) {
        List<Method> cases = Cases.of(test);
        for (Method method : cases) {
            String words = method.getAnnotation(Says.class).value();
            String about = test.getSimpleName() + "." + method.getName() + ": " + words;
            boolean said = document.isEmpty() || document.contains(words);
            checks.due(about, said ? "said" : "not said", "said");
        }
        return cases.size();
    }
}
