import java.io.IOException;
import java.lang.reflect.Constructor;
import java.lang.reflect.Field;
import java.lang.reflect.Method;
import java.lang.reflect.Modifier;
import java.nio.file.Files;
import java.nio.file.Path;
import java.util.TreeSet;
import java.util.regex.Matcher;
import java.util.regex.Pattern;

/** The public face is the document's, and the source keeps to those rules of the language that can be read from it. */
public final class FaceTest {
    private static final String INDEX = "IndexOutOfBoundsException";
    private static final String NONE = "NoSuchElementException";
    private static final String THREE = "IllegalArgumentException, IllegalStateException, " + INDEX;
    private static final String FOUR = THREE + ", " + NONE;
    private static final String[] FACE = {
        "int state(int, int, int)", "void key(long)", "boolean leave()", "int span(int)",
        "int put(int, long) throws " + THREE, "long value(int) throws " + FOUR, "int add(int, long) throws " + THREE,
        "long item(int, int) throws " + THREE, "int set(int, long, long) throws " + THREE,
        "long get(int, long) throws " + FOUR, "long member(int, int) throws " + THREE,
        "boolean remove(int, long) throws " + THREE, "int fold(int, long) throws " + THREE,
        "int size(int) throws IllegalStateException, " + INDEX, "boolean clear(int) throws IllegalStateException, " + INDEX,
        "int clearSpan()", "int keys(int) throws " + INDEX, "long keyAt(int, int) throws " + INDEX,
        "int snapshot()", "int drop(int) throws " + INDEX,
        "long ask(int, int, long, int, int) throws " + INDEX + ", " + NONE, "int entries(int, int) throws " + INDEX,
        "int restore(int) throws " + INDEX, "int move(int, int, int) throws " + INDEX, "int of(int, int) throws " + INDEX,
        "int told(int)",
    };
    private static final String[] FORBIDDEN = {
        "->", "::", "\\bcatch\\b", "\\btry\\b", "\\bfinally\\b", "\\bsynchronized\\b", "\\bassert\\b", "\\bpackage\\b",
        "\\bprotected\\b", "\\bRandom\\b", "\\bSystem\\.(?!arraycopy)", "\\bstatic *\\{", "Exact\\b", "\\bequals\\b", "\\bhashCode\\b",
        "\\btoString\\b", "\\bdouble\\b", "\\bfloat\\b", "import (?!java\\.util\\.NoSuchElementException;)",
    };
    private static int wrong = 0;

    public static void main(String[] args) throws IOException {
        checkClass();
        checkConstants();
        checkMethods();
        checkSource(Files.readString(Path.of("src/main/java/KeyStates.java")));
        System.out.println(wrong == 0 ? "the face is as due" : wrong + " things are not as due");
        if (wrong != 0) {
            System.exit(1);
        }
    }

    private static void require(boolean isSo, String what) {
        if (!isSo) {
            wrong++;
            System.out.println("not so: " + what);
        }
    }

    private static void checkClass() {
        int modifiers = KeyStates.class.getModifiers();
        require(Modifier.isPublic(modifiers) && Modifier.isFinal(modifiers), "the class is public and final");
        Constructor<?>[] constructors = KeyStates.class.getDeclaredConstructors();
        require(constructors.length == 1 && constructors[0].getParameterCount() == 0
                && Modifier.isPublic(constructors[0].getModifiers()), "one public constructor without parameters");
        for (Class<?> inside : KeyStates.class.getDeclaredClasses()) {
            require(Modifier.isStatic(inside.getModifiers()) && !Modifier.isPublic(inside.getModifiers()), inside + " is static");
        }
    }

    private static void checkConstants() {
        require(KeyStates.BAD == -1 && KeyStates.NO == -3 && KeyStates.FULL == -4, "BAD is -1, NO -3, FULL -4");
        TreeSet<String> names = new TreeSet<>();
        for (Field field : KeyStates.class.getDeclaredFields()) {
            if (!Modifier.isPrivate(field.getModifiers())) {
                names.add(Modifier.toString(field.getModifiers()) + " " + field.getType() + " " + field.getName());
            }
        }
        require(names.toString().equals("[public static final int BAD, public static final int FULL, public static final int NO]"),
                "the constants, not " + names);
    }

    private static void checkMethods() {
        TreeSet<String> due = new TreeSet<>(java.util.List.of(FACE));
        TreeSet<String> there = new TreeSet<>();
        TreeSet<String> publicNames = new TreeSet<>();
        for (Method method : KeyStates.class.getDeclaredMethods()) {
            if (!Modifier.isPrivate(method.getModifiers())) {
                require(Modifier.toString(method.getModifiers()).equals("public"), method + " is public alone");
                there.add(tell(method));
                publicNames.add(method.getName());
            }
        }
        require(there.equals(due), "the methods are " + due + ", not " + there);
        for (Method method : KeyStates.class.getDeclaredMethods()) {
            require(!Modifier.isPrivate(method.getModifiers()) || !publicNames.contains(method.getName()),
                    method + " bears no public method's name");
            require(method.getParameterCount() <= 7, method + " has at most seven parameters");
        }
    }

    private static String tell(Method method) {
        StringBuilder text = new StringBuilder();
        for (Class<?> type : method.getParameterTypes()) {
            text.append(text.length() == 0 ? "" : ", ").append(type);
        }
        TreeSet<String> thrown = new TreeSet<>();
        for (Class<?> type : method.getExceptionTypes()) {
            thrown.add(type.getSimpleName());
        }
        return method.getReturnType() + " " + method.getName() + "(" + text + ")"
                + (thrown.isEmpty() ? "" : " throws " + String.join(", ", thrown));
    }

    private static void checkSource(String source) {
        String code = source.replaceAll("(?s)/\\*.*?\\*/", "").replaceAll("//[^\n]*", "").replaceAll("\"[^\"\n]*\"", "\"\"");
        for (String pattern : FORBIDDEN) {
            Matcher found = Pattern.compile(pattern).matcher(code);
            require(!found.find(), "no " + pattern + " in the source");
        }
        // All room is made in constructors and fields; a call makes exceptions alone.
        Matcher made = Pattern.compile("\\n( *)([^\\n]*\\bnew\\b[^\\n]*)").matcher(code);
        while (made.find()) {
            String line = made.group(2);
            require(line.startsWith("throw new ") || line.startsWith("private final ") || line.startsWith("final ")
                    || line.equals("snapshots[i] = new Moment();"), "nothing is made by a call: " + line);
        }
    }
}
