import java.lang.reflect.Constructor;
import java.lang.reflect.Field;
import java.lang.reflect.Method;
import java.lang.reflect.Modifier;
import java.util.Arrays;
import java.util.TreeSet;

/** The face of the document, no member more, and the names that LANGUAGE.md's rule 1 leaves. */
public final class FaceTest {
    private static final String[] FACE = {
        "int prefix(int,int,boolean,int) IllegalArgumentException UnsupportedOperationException",
        "void needs(int,int) NoSuchElementException IllegalArgumentException",
        "void begin()",
        "int field(int,long,int) NoSuchElementException IllegalArgumentException IllegalStateException",
        "int make() IllegalStateException UnsupportedOperationException",
        "int module(int) ArrayIndexOutOfBoundsException",
        "void clear()",
        "int read(int) IllegalArgumentException UnsupportedOperationException",
        "int typed(int) IllegalArgumentException UnsupportedOperationException",
        "int parse() IllegalStateException",
        "int parseTyped() IllegalStateException",
        "int check() IllegalStateException",
        "int known(int,int) NoSuchElementException IllegalArgumentException",
        "long value(int) NoSuchElementException",
        "int mended()",
        "int hint(int) IllegalArgumentException",
        "int scan(int,int) IllegalArgumentException IllegalStateException UnsupportedOperationException",
        "int count(int)",
    };

    private static String described(Method method) {
        StringBuilder text = new StringBuilder();
        text.append(method.getReturnType()).append(' ').append(method.getName()).append('(');
        String between = "";
        for (Class<?> type : method.getParameterTypes()) {
            text.append(between).append(type);
            between = ",";
        }
        text.append(')');
        for (Class<?> type : method.getExceptionTypes()) {
            text.append(' ').append(type.getSimpleName());
        }
        return text.toString();
    }

    private static void methods() {
        TreeSet<String> open = new TreeSet<>();
        TreeSet<String> faceNames = new TreeSet<>();
        for (Method method : ScanCodes.class.getDeclaredMethods()) {
            if (!Modifier.isPrivate(method.getModifiers())) {
                open.add((Modifier.isPublic(method.getModifiers()) ? "" : "hidden ") + described(method));
                faceNames.add(method.getName());
            }
        }
        Due.compare("the methods", new TreeSet<>(Arrays.asList(FACE)).toString(), open.toString());
        for (Method method : ScanCodes.class.getDeclaredMethods()) {
            if (Modifier.isPrivate(method.getModifiers())) {
                Due.is(method.getName() + " bears a name of the face", 0,
                        () -> faceNames.contains(method.getName()) ? 1 : 0);
            }
        }
    }

    private static void others() {
        Due.is("public final", Modifier.PUBLIC | Modifier.FINAL, () -> ScanCodes.class.getModifiers());
        Constructor<?>[] constructors = ScanCodes.class.getDeclaredConstructors();
        Due.is("constructors", 1, () -> constructors.length);
        Due.compare("the constructor", "public ScanCodes(int)", constructors[0].toString());
        for (Field field : ScanCodes.class.getDeclaredFields()) {
            Due.is(field.getName() + " is private", 1, () -> Modifier.isPrivate(field.getModifiers()) ? 1 : 0);
        }
        for (Class<?> inside : ScanCodes.class.getDeclaredClasses()) {
            int modifiers = inside.getModifiers();
            Due.is(inside.getName() + " is static and not open", 1,
                    () -> Modifier.isStatic(modifiers) && !Modifier.isPublic(modifiers)
                            && !Modifier.isProtected(modifiers) ? 1 : 0);
        }
    }

    public static void main(String[] args) {
        methods();
        others();
        Due.done("FaceTest");
    }
}
