import java.io.IOException;
import java.net.URI;
import java.net.URL;
import java.net.URLClassLoader;
import java.nio.file.Files;
import java.nio.file.Path;
import java.util.Comparator;
import java.util.HashSet;
import java.util.List;
import java.util.Set;
import java.util.stream.Stream;
import javax.tools.Diagnostic;
import javax.tools.DiagnosticCollector;
import javax.tools.JavaFileObject;
import javax.tools.SimpleJavaFileObject;
import javax.tools.ToolProvider;

/** Java's own compiler: which lines of a source it refuses, or the class that it makes of them. */
final class Javac {
    private final String name;
    private final List<String> lines;

    /** Of a class with this name; it may have others beside it, too. */
    Javac(String name, List<String> lines) {
        this.name = name;
        this.lines = lines;
    }

    /** The lines in which there is an error. */
    Set<String> refused() throws IOException {
        Path directory = Files.createTempDirectory("javac");
        try {
            return compile(directory);
        } finally {
            delete(directory);
        }
    }

    Class<?> loaded() throws IOException, ClassNotFoundException {
        Path directory = Files.createTempDirectory("javac");
        try {
            for (String line : compile(directory)) {
                throw new IllegalStateException("javac refuses " + line);
            }
            return load(directory);
        } finally {
            delete(directory);
        }
    }

    private Set<String> compile(Path directory) {
        DiagnosticCollector<JavaFileObject> found = new DiagnosticCollector<>();
        // Left to itself, it would look for classes where CLASSPATH says, if that is set.
        List<String> options = List.of("--release", "17", "-proc:none", "-Xmaxerrs", "1000000",
                "-classpath", System.getProperty("java.class.path"), "-d", directory.toString());
        ToolProvider.getSystemJavaCompiler()
                .getTask(null, null, found, options, null, List.of(source())).call();
        Set<String> refused = new HashSet<>();
        for (Diagnostic<?> diagnostic : found.getDiagnostics()) {
            if (diagnostic.getKind() == Diagnostic.Kind.ERROR) {
                refused.add(lines.get((int) diagnostic.getLineNumber() - 1));
            }
        }
        return refused;
    }

    private JavaFileObject source() {
        URI uri = URI.create("string:///" + name + ".java");
        return new SimpleJavaFileObject(uri, JavaFileObject.Kind.SOURCE) {
            @Override
            public CharSequence getCharContent(boolean ignoreErrors) {
                return String.join("\n", lines);
            }
        };
    }

    // Each class is loaded at once, since the directory will be gone when it is used.
    private Class<?> load(Path directory) throws IOException, ClassNotFoundException {
        URL[] urls = {directory.toUri().toURL()};
        try (URLClassLoader loader = new URLClassLoader(urls);
                Stream<Path> files = Files.list(directory)) {
            for (Path file : files.toList()) {
                loader.loadClass(file.getFileName().toString().replace(".class", ""));
            }
            return loader.loadClass(name);
        }
    }

    private static void delete(Path directory) throws IOException {
        try (Stream<Path> files = Files.walk(directory)) {
            for (Path file : files.sorted(Comparator.reverseOrder()).toList()) {
                Files.delete(file);
            }
        }
    }
}
