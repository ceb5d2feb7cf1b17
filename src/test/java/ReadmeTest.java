import java.io.IOException;
import java.lang.reflect.Method;
import java.lang.reflect.Modifier;
import java.nio.file.Files;
import java.nio.file.Path;
import java.util.ArrayList;
import java.util.List;
import java.util.Set;
import java.util.TreeSet;
import java.util.regex.Matcher;
import java.util.regex.Pattern;

/** The examples of README.md answer what it says, every call has one, and every test is named there. */
public final class ReadmeTest {
    private static final Pattern BLOCK = Pattern.compile("(?s)```java\n(.*?)```");
    private static final Pattern MADE = Pattern.compile("GridRows rows = new GridRows\\(\\);.*");
    private static final Pattern CALL = Pattern.compile("rows\\.(\\w+)\\(([^)]*)\\); *// ([A-Z]+|-?\\d+)(:.*)?");

    private static final Set<String> shown = new TreeSet<>();
    private static int wrong = 0;

    private ReadmeTest() {
    }

    private static void due(String what, Object got, Object want) {
        if (!got.equals(want)) {
            wrong++;
            System.out.println("README.md: " + what + ": " + got + ", due is " + want);
        }
    }

    private static int numberOf(String word) throws ReflectiveOperationException {
        return Character.isLetter(word.charAt(0)) ? GridRows.class.getField(word).getInt(null) : Integer.parseInt(word);
    }

    private static int answer(GridRows rows, String name, String numbers) throws ReflectiveOperationException {
        List<Object> arguments = new ArrayList<>();
        for (String number : numbers.split(", *")) {
            if (!number.isEmpty()) {
                arguments.add(Integer.valueOf(number));
            }
        }
        Class<?>[] types = new Class<?>[arguments.size()];
        java.util.Arrays.fill(types, int.class);
        return (int) GridRows.class.getMethod(name, types).invoke(rows, arguments.toArray());
    }

    private static void runBlock(String block) throws ReflectiveOperationException {
        GridRows rows = null;
        for (String line : block.split("\n")) {
            Matcher call = CALL.matcher(line);
            if (MADE.matcher(line).matches()) {
                rows = new GridRows();
            } else if (rows != null && call.matches()) {
                shown.add(call.group(1));
                due(line, answer(rows, call.group(1), call.group(2)), numberOf(call.group(3)));
            } else {
                due("a line that can be read", line, "");
            }
        }
    }

    private static void everyCallIsShown() {
        Set<String> face = new TreeSet<>();
        for (Method method : GridRows.class.getDeclaredMethods()) {
            if (Modifier.isPublic(method.getModifiers())) {
                face.add(method.getName());
            }
        }
        due("calls that have an example", shown, face);
    }

    private static void everyTestIsNamed(String text) throws IOException {
        try (var tests = Files.list(Path.of("src/test/java"))) {
            for (Path test : (Iterable<Path>) tests::iterator) {
                String name = test.getFileName().toString().replace(".java", "");
                due(name + " is named", text.contains("`" + name + "`"), true);
            }
        }
    }

    public static void main(String[] args) throws Exception {
        String text = Files.readString(Path.of("README.md"));
        Matcher blocks = BLOCK.matcher(text);
        while (blocks.find()) {
            runBlock(blocks.group(1));
        }
        everyCallIsShown();
        everyTestIsNamed(text);
        System.out.println(wrong == 0 ? "README.md is as due" : wrong + " lines are not as due");
        if (wrong != 0) {
            System.exit(1);
        }
    }
}
