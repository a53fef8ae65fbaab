import java.io.IOException;
import java.lang.reflect.Field;
import java.lang.reflect.Method;
import java.lang.reflect.Modifier;
import java.net.URL;
import java.net.URLClassLoader;
import java.nio.file.Files;
import java.nio.file.Path;
import java.util.ArrayList;
import java.util.Comparator;
import java.util.List;
import java.util.TreeSet;
import java.util.regex.Matcher;
import java.util.regex.Pattern;
import java.util.stream.Stream;
import javax.tools.ToolProvider;

/** README.md: its example answers as its comments say, and it names every call, constant and test. */
public final class ReadmeTest {
    private static final Due DUE = new Due("ReadmeTest");
    private static final Path README = Path.of("README.md");
    private static final Path TESTS = Path.of("src/test/java");

    private static final Pattern EXAMPLE = Pattern.compile("(?s)```java\n(.*?)```");
    private static final Pattern CALL = Pattern.compile("(?m)^(sheet\\.\\w+\\(.*\\)); +// (-?\\d+): ");
    private static final Pattern ROW = Pattern.compile("(?m)^\\| `(\\w+)\\(([^)]*)\\)` \\|.*\\|(.*)\\|$");
    private static final Pattern CODE = Pattern.compile("(?m)^\\| (-?\\d+) \\| `([A-Z_]+)` \\|");

    public static void main(String[] args) throws IOException, ReflectiveOperationException {
        String page = Files.readString(README);
        example(page, args[0]);
        calls(page);
        constants(page);
        settings(page);
        tests(page);
        DUE.end();
    }

    /** Compiles the example's calls, as they stand, into a class that answers them in a row. */
    private static void example(String page, String main) throws IOException, ReflectiveOperationException {
        Matcher example = EXAMPLE.matcher(page);
        DUE.isTrue("there is an example", example.find());
        List<String> calls = new ArrayList<>();
        List<Integer> due = new ArrayList<>();
        Matcher call = CALL.matcher(example.group(1));
        while (call.find()) {
            calls.add(call.group(1));
            due.add(Integer.parseInt(call.group(2)));
        }
        DUE.is("calls in the lines of the example, beside the first", calls.size(), example.group(1).lines().count() - 1);
        int[] answers = answers(calls, main);
        for (int i = 0; i < answers.length; i++) {
            DUE.is(calls.get(i), answers[i], due.get(i));
        }
    }

    private static int[] answers(List<String> calls, String main) throws IOException, ReflectiveOperationException {
        Path folder = Files.createTempDirectory("readme");
        try {
            Path source = folder.resolve("Example.java");
            Files.writeString(source, "public final class Example { public static int[] answers() {"
                + " ProofMarks sheet = new ProofMarks(); return new int[] {" + String.join(", ", calls) + "}; } }");
            int failed = ToolProvider.getSystemJavaCompiler()
                .run(null, null, null, "-d", folder.toString(), main, source.toString());
            DUE.is("the example is compiled", failed, 0);
            try (URLClassLoader loader = new URLClassLoader(new URL[] {folder.toUri().toURL()})) {
                return (int[]) loader.loadClass("Example").getMethod("answers").invoke(null);
            }
        } finally {
            remove(folder);
        }
    }

    private static void remove(Path folder) throws IOException {
        try (Stream<Path> files = Files.walk(folder)) {
            for (Path file : files.sorted(Comparator.reverseOrder()).toList()) {
                Files.delete(file);
            }
        }
    }

    /** The table of the calls has each one once, with its parameters, and tells which ones are changes. */
    private static void calls(String page) throws IOException {
        TreeSet<String> told = new TreeSet<>();
        TreeSet<String> changes = new TreeSet<>();
        Matcher row = ROW.matcher(page);
        while (row.find()) {
            DUE.isTrue(row.group(1) + " is told once", told.add(row.group(1) + "(" + row.group(2) + ")"));
            if (row.group(3).contains("changes")) {
                changes.add(row.group(1));
            }
        }
        TreeSet<String> due = new TreeSet<>();
        TreeSet<String> dueChanges = new TreeSet<>();
        String document = Files.readString(Path.of("../shared/DOC.md"));
        for (String section : document.split("(?m)^## Promise ")) {
            Matcher signature = Pattern.compile("`int (\\w+)\\(([^)]*)\\)`: ").matcher(section);
            if (signature.find()) {
                due.add(signature.group(1) + "(" + signature.group(2).replaceAll("(?:int|long) ", "") + ")");
                if (section.contains("This is a change")) {
                    dueChanges.add(signature.group(1));
                }
            }
        }
        DUE.isTrue("the calls are " + due + ", told are " + told, told.equals(due));
        DUE.isTrue("the changes are " + dueChanges + ", told are " + changes, changes.equals(dueChanges));
        for (Method method : ProofMarks.class.getDeclaredMethods()) {
            DUE.isTrue(method.getName() + " is told", Modifier.isPrivate(method.getModifiers())
                || told.stream().anyMatch(call -> call.startsWith(method.getName() + "(")));
        }
    }

    private static void constants(String page) throws IllegalAccessException {
        TreeSet<String> told = new TreeSet<>();
        Matcher code = CODE.matcher(page);
        while (code.find()) {
            told.add(code.group(2) + "=" + code.group(1));
        }
        TreeSet<String> due = new TreeSet<>();
        for (Field field : ProofMarks.class.getFields()) {
            due.add(field.getName() + "=" + field.getInt(null));
        }
        DUE.isTrue("the constants are " + due + ", told are " + told, told.equals(due));
    }

    /** Each setting takes the values of its range, and no other, and has the first value that is told. */
    private static void settings(String page) {
        Matcher row = Pattern.compile("(?m)^\\| (\\d) \\| `[A-Z]+` \\| (\\d) to (\\d) \\| (\\d) \\|").matcher(page);
        int rows = 0;
        while (row.find()) {
            rows++;
            int setting = Integer.parseInt(row.group(1));
            int least = Integer.parseInt(row.group(2));
            int most = Integer.parseInt(row.group(3));
            ProofMarks x = new ProofMarks();
            DUE.is("the setting " + setting + " at first", x.count(11 + setting), Integer.parseInt(row.group(4)));
            for (int value = -1; value <= 10; value++) {
                DUE.isTrue("set(" + setting + ", " + value + ")", x.set(setting, value) >= 0 == (value >= least && value <= most));
            }
        }
        DUE.is("settings that are told", rows, 4);
    }

    private static void tests(String page) throws IOException {
        String table = page.substring(Math.max(0, page.indexOf("| test |")));
        TreeSet<String> told = new TreeSet<>();
        Matcher name = Pattern.compile("`(\\w+Test)`").matcher(table);
        while (name.find()) {
            told.add(name.group(1) + ".java");
        }
        TreeSet<String> due = new TreeSet<>();
        try (Stream<Path> files = Files.list(TESTS)) {
            files.map(file -> file.getFileName().toString()).filter(file -> file.endsWith("Test.java")).forEach(due::add);
        }
        DUE.isTrue("the tests are " + due + ", told are " + told, told.equals(due));
    }
}
