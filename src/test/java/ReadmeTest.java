import java.io.IOException;
import java.io.StringWriter;
import java.lang.reflect.Method;
import java.lang.reflect.Modifier;
import java.net.URL;
import java.net.URLClassLoader;
import java.nio.file.Files;
import java.nio.file.Path;
import java.util.List;
import java.util.TreeSet;
import java.util.regex.Matcher;
import java.util.regex.Pattern;
import java.util.stream.Stream;
import javax.tools.JavaCompiler;
import javax.tools.StandardJavaFileManager;
import javax.tools.ToolProvider;

/** README.md beside the class and the tests, so that it can not tell what is not so; run from the project's folder. */
public final class ReadmeTest {
    /** A line of the code whose last call has its answer behind it. */
    private static final Pattern ANSWERED = Pattern.compile("(\\w+ \\w+ = )?(codes\\..*);\\s*// (-?\\d+)\\b.*");

    /** Called by the code of README.md, which is compiled here: the answer, which goes on to the code. */
    public static int due(String line, long due, int got) {
        Due.is("README.md: " + line, due, () -> got);
        return got;
    }

    public static long due(String line, long due, long got) {
        Due.is("README.md: " + line, due, () -> got);
        return got;
    }

    /** All pieces of code in one method, as the later ones use the object of the first. */
    private static String program(String readme) {
        StringBuilder code = new StringBuilder("public final class Readme {\n public static void run() {\n");
        Matcher pieces = Pattern.compile("(?s)```java\n(.*?)```").matcher(readme);
        while (pieces.find()) {
            for (String line : pieces.group(1).split("\n")) {
                code.append(asking(line)).append('\n');
            }
        }
        return code.append("}\n}\n").toString();
    }

    private static String asking(String line) {
        Matcher answered = ANSWERED.matcher(line.trim());
        if (!answered.matches()) {
            // An answer that is written otherwise would be compared by no one.
            Due.is("README.md: answers not asked in " + line, 0, () -> line.contains("//") ? 1 : 0);
            return line;
        }
        String variable = answered.group(1) == null ? "" : answered.group(1);
        String call = answered.group(2);
        return variable + "ReadmeTest.due(\"" + call + "\", " + answered.group(3) + ", " + call + ");";
    }

    private static String compile(String program, Path folder) throws IOException {
        Path source = folder.resolve("Readme.java");
        Files.writeString(source, program);
        JavaCompiler compiler = ToolProvider.getSystemJavaCompiler();
        StringWriter told = new StringWriter();
        List<String> options = List.of("-proc:none", "-cp", System.getProperty("java.class.path"),
                "-d", folder.toString());
        try (StandardJavaFileManager files = compiler.getStandardFileManager(null, null, null)) {
            boolean done = compiler.getTask(told, files, null, options, null, files.getJavaFileObjects(source)).call();
            return done ? "" : told.toString();
        }
    }

    private static void code(String program) throws Exception {
        Path folder = Files.createTempDirectory("readme");
        try {
            String complaint = compile(program, folder);
            Due.compare("the compiler over README.md's code", "", complaint);
            if (complaint.isEmpty()) {
                run(folder);
            }
        } finally {
            remove(folder);
        }
    }

    private static void run(Path folder) throws Exception {
        try (URLClassLoader loader = new URLClassLoader(new URL[] {folder.toUri().toURL()})) {
            Method run = loader.loadClass("Readme").getMethod("run");
            run.invoke(null);
        }
    }

    private static void remove(Path folder) throws IOException {
        try (Stream<Path> inside = Files.list(folder)) {
            for (Path path : inside.toList()) {
                Files.delete(path);
            }
        }
        Files.delete(folder);
    }

    /** Each call of the face stands in the table of calls, and the code uses it. */
    private static void calls(String readme, String program) {
        TreeSet<String> face = new TreeSet<>();
        for (Method method : ScanCodes.class.getDeclaredMethods()) {
            if (Modifier.isPublic(method.getModifiers())) {
                face.add(method.getName());
            }
        }
        TreeSet<String> told = found(readme, "(?m)^\\|[^|\n]*\\| `(\\w+)\\(");
        Due.compare("the calls in README.md", face.toString(), told.toString());
        TreeSet<String> used = found(program, "codes\\.(\\w+)\\(");
        Due.compare("the calls in README.md's code", face.toString(), used.toString());
    }

    private static void tests(String readme) throws IOException {
        TreeSet<String> there = new TreeSet<>();
        try (Stream<Path> files = Files.list(Path.of("src/test/java"))) {
            files.map(path -> path.getFileName().toString()).filter(name -> name.endsWith("Test.java"))
                    .forEach(name -> there.add(name.replace(".java", "")));
        }
        Due.compare("the tests in README.md", there.toString(), found(readme, "(?m)^\\| `(\\w+)` \\|").toString());
        for (String script : found(readme, "(?m)^(\\.ci/\\w+)$")) {
            Due.is(script + " can be run", 1, () -> Files.isExecutable(Path.of(script)) ? 1 : 0);
        }
    }

    private static TreeSet<String> found(String text, String pattern) {
        TreeSet<String> all = new TreeSet<>();
        Matcher matcher = Pattern.compile(pattern).matcher(text);
        while (matcher.find()) {
            all.add(matcher.group(1));
        }
        return all;
    }

    public static void main(String[] args) throws Exception {
        String readme = Files.readString(Path.of("README.md"));
        String program = program(readme);
        code(program);
        calls(readme, program);
        tests(readme);
        Due.done("ReadmeTest");
    }
}
