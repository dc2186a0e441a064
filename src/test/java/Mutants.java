import java.io.IOException;
import java.io.PrintStream;
import java.io.StringWriter;
import java.lang.reflect.Method;
import java.net.URL;
import java.net.URLClassLoader;
import java.nio.file.Files;
import java.nio.file.Path;
import java.util.List;
import java.util.concurrent.atomic.AtomicInteger;
import java.util.stream.IntStream;
import javax.tools.JavaCompiler;
import javax.tools.StandardJavaFileManager;
import javax.tools.ToolProvider;

/**
 * Breaks the class by the change of each boundary case, one at a time, and tells the cases that do not see it: such a
 * test would be worth nothing. It goes by the very words of the class, so it is no part of .ci/run: see .ci/mutants.
 */
public final class Mutants {
    private final Path compiledTests;
    private final Path folder;
    private final String code;

    private Mutants(Path compiledTests, Path folder) throws IOException {
        this.compiledTests = compiledTests;
        this.folder = folder;
        code = Files.readString(Path.of("src/main/java/ScanCodes.java")).replaceAll("\\s+", " ");
    }

    /** The class with the change, or an empty text if the change is not to be found in just one place. */
    private String changed(Edges.Edge edge) {
        int in = code.indexOf(edge.in());
        if (in < 0 || code.indexOf(edge.in(), in + 1) >= 0) {
            return "";
        }
        int from = code.indexOf(edge.from(), in);
        return from < 0 ? "" : code.substring(0, from) + edge.to() + code.substring(from + edge.from().length());
    }

    private String compile(String text, Path to) throws IOException {
        Path source = Files.createDirectories(to).resolve("ScanCodes.java");
        Files.writeString(source, text);
        JavaCompiler compiler = ToolProvider.getSystemJavaCompiler();
        StringWriter told = new StringWriter();
        try (StandardJavaFileManager files = compiler.getStandardFileManager(null, null, null)) {
            boolean done = compiler.getTask(told, files, null, List.of("-d", to.toString(), "-proc:none"), null,
                    files.getJavaFileObjects(source)).call();
            return done ? "" : told.toString();
        }
    }

    /** What speaks against one boundary case; an empty text if it sees its change. */
    private String complaint(List<Edges.Edge> all, int i) {
        String text = changed(all.get(i));
        if (text.isEmpty()) {
            return "its change is not found in the class";
        }
        Path to = folder.resolve("m" + i);
        try {
            String told = compile(text, to);
            if (!told.isEmpty()) {
                return "its change can not be compiled: " + told;
            }
            URL[] places = {to.toUri().toURL(), compiledTests.toUri().toURL()};
            // Without this program's own classes above it, so that the changed class comes first.
            try (URLClassLoader loader = new URLClassLoader(places, ClassLoader.getPlatformClassLoader())) {
                Method wrongOf = loader.loadClass("EdgeTest").getDeclaredMethod("wrongOf", int.class);
                wrongOf.setAccessible(true);
                return (Integer) wrongOf.invoke(null, i) > 0 ? "" : "it does not see its change";
            }
        } catch (IOException | ReflectiveOperationException e) {
            return e.toString();
        }
    }

    public static void main(String[] args) throws IOException {
        Mutants mutants = new Mutants(Path.of(args[0]), Files.createTempDirectory(Path.of(args[1]), "mutants"));
        List<Edges.Edge> all = Edges.all();
        AtomicInteger bad = new AtomicInteger();
        PrintStream out = System.out;
        // The changed classes answer wrongly on purpose: what the tests print of that is not wanted here.
        System.setOut(new PrintStream(PrintStream.nullOutputStream()));
        IntStream.range(0, all.size()).parallel().forEach(i -> {
            String complaint = mutants.complaint(all, i);
            if (!complaint.isEmpty()) {
                bad.incrementAndGet();
                out.println(all.get(i).name() + ": " + complaint);
            }
        });
        out.println(all.size() + " boundary cases, " + bad.get() + " do not see their change");
        System.exit(bad.get() == 0 ? 0 : 1);
    }
}
