import java.io.IOException;
import java.nio.file.Files;
import java.nio.file.Path;
import java.util.regex.Matcher;
import java.util.regex.Pattern;

/** Words that LANGUAGE.md leaves out of the class; run from the project's folder, as .ci/run does. */
public final class LanguageTest {
    private static final String[] LEFT_OUT = {
        "->", "::", "\\bfinally\\b", "\\bsynchronized\\b", "\\bassert\\b", "Exact\\b", "\\bpackage\\b", "\\.SIZE\\b",
        "\\bprotected\\b", "static\\s*\\{",
    };
    private static final String[] IMPORTS = {"java.util.ArrayList", "java.util.Arrays", "java.util.Iterator",
        "java.util.List", "java.util.NoSuchElementException"};
    private static final int LONGEST_METHOD = 60;

    private static void words(String code) {
        for (String word : LEFT_OUT) {
            Due.is("the class has " + word, 0, () -> Pattern.compile(word).matcher(code).find() ? 1 : 0);
        }
        Matcher imports = Pattern.compile("import\\s+([^;]+);").matcher(code);
        while (imports.find()) {
            String name = imports.group(1);
            Due.is("it may import " + name, 1, () -> java.util.Arrays.asList(IMPORTS).contains(name) ? 1 : 0);
        }
    }

    private static void lengths(String code) {
        int start = 0;
        String head = "";
        String[] lines = code.split("\n");
        for (int i = 0; i < lines.length; i++) {
            if (lines[i].matches(" {4}( {4})?\\w.*\\(.*") && !lines[i].endsWith(";")) {
                start = i;
                head = lines[i].trim();
            } else if (lines[i].matches(" {4}( {4})?}") && !head.isEmpty()) {
                int length = i - start + 1;
                Due.is(head + " is short", 1, () -> length <= LONGEST_METHOD ? 1 : 0);
                head = "";
            }
        }
    }

    public static void main(String[] args) throws IOException {
        String text = Files.readString(Path.of("src/main/java/ScanCodes.java"));
        String code = text.replaceAll("(?s)/\\*.*?\\*/", "").replaceAll("//[^\n]*", "");
        words(code);
        lengths(code);
        Due.done("LanguageTest");
    }
}
