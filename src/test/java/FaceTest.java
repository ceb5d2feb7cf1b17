import java.io.IOException;
import java.lang.reflect.Constructor;
import java.lang.reflect.Field;
import java.lang.reflect.Method;
import java.lang.reflect.Modifier;
import java.nio.file.Files;
import java.nio.file.Path;
import java.util.Arrays;
import java.util.Set;
import java.util.TreeSet;
import java.util.regex.Matcher;
import java.util.regex.Pattern;

/** The public face of the document, and those rules of LANGUAGE.md that can be seen from outside. */
public final class FaceTest {
    private static final String[] METHODS = {
        "code(int,int,int)", "send(int,int)", "hear(int,int)", "drift(int,int)", "wipe()", "end(int)", "undo()",
        "told(int)", "point(int,int)", "member(int,int)", "apart(int,int)", "distance(int,int)", "turned(int)",
        "next(int,int,int)", "sent(int,int)", "heard(int,int)", "nearest(int,int)", "ahead(int,int)",
        "decided(int,int)", "cost()", "sign(int)", "keep(int)", "goBack(int)"};
    private static final String[] CONSTANTS = {
        "NONE=-1", "NEVER=99999999", "UNKNOWN=-1000000001", "OUTSIDE=-1000000002", "NOT=-1000000003", "FULL=-1000000004"};
    private static final String[] BARRED = {
        "throw", "throws", "try", "catch", "synchronized", "assert", "protected", "->", "::", "System\\.out", "\\bObject\\b",
        "Random", "Thread", "Exact\\(", "instanceof", "package"};

    private static final Set<String> LIBRARY = Set.of("Math.min", "Integer.bitCount", "Arrays.fill", "System.arraycopy", "util.Arrays");
    private static final int MOST_CLASSES = 12, MOST_LINES = 60;

    private static int wrong = 0;

    private static void due(String what, Object got, Object want) {
        if (!got.equals(want)) {
            wrong++;
            System.out.println(what + " is " + got + ", due is " + want);
        }
    }

    private static String signature(Method method) {
        StringBuilder text = new StringBuilder(method.getName()).append('(');
        for (Class<?> type : method.getParameterTypes()) {
            text.append(text.charAt(text.length() - 1) == '(' ? "" : ",").append(type.getName());
        }
        return text.append(')').toString();
    }

    private static void methods() {
        Set<String> found = new TreeSet<>();
        Set<String> names = new TreeSet<>();
        for (Method method : GridRows.class.getDeclaredMethods()) {
            if (Modifier.isPrivate(method.getModifiers())) {
                continue;
            }
            found.add(signature(method));
            names.add(method.getName());
            due(method + " public", Modifier.isPublic(method.getModifiers()), true);
            due(method + " static", Modifier.isStatic(method.getModifiers()), false);
            due(method + " answers", method.getReturnType(), int.class);
        }
        due("the methods", found, new TreeSet<>(Arrays.asList(METHODS)));
        due("few classes", GridRows.class.getDeclaredClasses().length + 1 <= MOST_CLASSES, true);
        privateNames(GridRows.class, names);
        for (Class<?> inside : GridRows.class.getDeclaredClasses()) {
            due(inside + " static", Modifier.isStatic(inside.getModifiers()), true);
            privateNames(inside, names);
        }
    }

    private static void privateNames(Class<?> type, Set<String> publicNames) {
        for (Method method : type.getDeclaredMethods()) {
            boolean ofFace = type == GridRows.class && Modifier.isPublic(method.getModifiers());
            due(method + " bears a public name", !ofFace && publicNames.contains(method.getName()), false);
            due(method + " has at most seven parameters", method.getParameterCount() <= 7, true);
        }
        due(type + " has few fields", type == GridRows.class || type.getDeclaredFields().length <= 20, true);
    }

    private static void fields() throws IllegalAccessException {
        Set<String> found = new TreeSet<>();
        for (Field field : GridRows.class.getDeclaredFields()) {
            if (Modifier.isStatic(field.getModifiers())) {
                due(field + " final", Modifier.isFinal(field.getModifiers()), true);
            }
            if (!Modifier.isPrivate(field.getModifiers())) {
                due(field + " public and static", Modifier.isPublic(field.getModifiers()) && Modifier.isStatic(field.getModifiers()), true);
                found.add(field.getName() + "=" + field.getInt(null));
            }
        }
        due("the constants", found, new TreeSet<>(Arrays.asList(CONSTANTS)));
    }

    private static void constructors() {
        Constructor<?>[] all = GridRows.class.getDeclaredConstructors();
        due("constructors", all.length, 1);
        due("parameters of the constructor", all[0].getParameterCount(), 0);
        due("the constructor public", Modifier.isPublic(all[0].getModifiers()), true);
        due("the class public and final", Modifier.isPublic(GridRows.class.getModifiers()) && Modifier.isFinal(GridRows.class.getModifiers()), true);
    }

    private static void source() throws IOException {
        String text = Files.readString(Path.of("src/main/java/GridRows.java"));
        for (int i = 0; i < text.length(); i++) {
            if (text.charAt(i) > 126) {
                due("sign " + i + " of the source", (int) text.charAt(i), "at most 126");
            }
        }
        String plain = text.replaceAll("(?s)/\\*.*?\\*/", "").replaceAll("//[^\n]*", "");
        for (String word : BARRED) {
            String pattern = Character.isLetter(word.charAt(0)) && word.indexOf('\\') < 0 ? "\\b" + word + "\\b" : word;
            Matcher matcher = Pattern.compile(pattern).matcher(plain);
            due("'" + word + "' in the source", matcher.find(), false);
        }
        library(plain);
        lengths(text);
        Matcher imports = Pattern.compile("import ([^;]*);").matcher(plain);
        while (imports.find()) {
            due("an import", imports.group(1), "java.util.Arrays");
        }
    }

    private static void library(String plain) {
        Matcher calls = Pattern.compile("\\b(Math|Integer|Long|Arrays|System|util)\\.(\\w+)").matcher(plain);
        while (calls.find()) {
            due(calls.group() + " is of the library that the rules leave", LIBRARY.contains(calls.group()), true);
        }
    }

    /** A method ends where a line closes as deep as its first line stands. */
    private static void lengths(String text) {
        Matcher methods = Pattern.compile("(?m)^( {4}| {8})\\S[^;=\n]*\\) \\{\n((?:(?:\\1 +\\S.*)?\n)*)\\1\\}").matcher(text);
        int found = 0;
        while (methods.find()) {
            found++;
            due("few lines: " + methods.group().trim().split("\n")[0], methods.group(2).split("\n").length <= MOST_LINES, true);
        }
        due("methods are found at all", found > METHODS.length, true);
    }

    public static void main(String[] args) throws Exception {
        methods();
        fields();
        constructors();
        source();
        System.out.println(wrong == 0 ? "the face is as due" : wrong + " things are not as due");
        if (wrong != 0) {
            System.exit(1);
        }
    }
}
