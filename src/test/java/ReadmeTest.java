import java.io.IOException;
import java.lang.reflect.InvocationTargetException;
import java.lang.reflect.Method;
import java.lang.reflect.Modifier;
import java.nio.file.Files;
import java.nio.file.Path;
import java.util.ArrayList;
import java.util.Comparator;
import java.util.HashMap;
import java.util.List;
import java.util.Map;
import java.util.TreeSet;
import java.util.regex.Matcher;
import java.util.regex.Pattern;
import java.util.stream.Stream;

/** What README.md shows of the use of the class, and how it says that the tests are run, is so. */
final class ReadmeTest {
    private static final Check check = new Check();
    private static final Path README = Path.of("README.md");
    private static final Path TESTS = Path.of("src/test/java");
    private static final String RUN_ALL = ".ci/run";
    private static final Pattern MAKING = Pattern.compile("ProcessMill (\\w+) = new ProcessMill\\(\\);");
    private static final Pattern CALL =
            Pattern.compile("(?:int (\\w+) = )?(\\w+)\\.(\\w+)\\(([^()]*)\\); +// (.+)");

    private final Map<String, ProcessMill> mills = new HashMap<>();
    private final Map<String, Integer> numbers = new HashMap<>();
    private final TreeSet<String> shown = new TreeSet<>();

    public static void main(String[] args) throws Exception {
        String readme = Files.readString(README);
        new ReadmeTest().examplesAnswerAsShown(readme);
        commandsPass(readme);
        everyTestIsNamed(readme);
        whatIsNamedIsThere(readme);
        check.end();
    }

    private static List<String> blocks(String readme, String language) {
        List<String> found = new ArrayList<>();
        Matcher block = Pattern.compile("(?s)```" + language + "\n(.*?)```").matcher(readme);
        while (block.find()) {
            found.add(block.group(1));
        }
        return found;
    }

    private void examplesAnswerAsShown(String readme) throws Exception {
        for (String block : blocks(readme, "java")) {
            for (String line : block.lines().toList()) {
                lineIsSo(line);
            }
        }
        TreeSet<String> face = new TreeSet<>();
        for (Method method : publicMethods()) {
            face.add(method.getName());
        }
        check.same("the methods that are shown", shown, face);
    }

    private void lineIsSo(String line) throws Exception {
        Matcher making = MAKING.matcher(line);
        Matcher call = CALL.matcher(line);
        if (making.matches()) {
            mills.put(making.group(1), new ProcessMill());
        } else if (call.matches()) {
            callIsSo(line, call);
        } else {
            check.same("a line of an example that is no call: " + line, line.isBlank(), true);
        }
    }

    /** What follows a call is its answer, then a colon and why; behind a call without an answer it is all why. */
    private void callIsSo(String line, Matcher call) throws Exception {
        String[] parts = call.group(4).split(", ");
        Method method = methodNamed(call.group(3), parts.length);
        Object[] values = new Object[parts.length];
        for (int k = 0; k < parts.length; k++) {
            values[k] = numbers.containsKey(parts[k]) ? numbers.get(parts[k]) : Integer.valueOf(parts[k]);
        }
        shown.add(method.getName());
        String due = call.group(5).split(":")[0];
        String got = answer(mills.get(call.group(2)), method, values);
        check.same(line, got, got.isEmpty() && !due.startsWith("throws") ? "" : due);
        if (call.group(1) != null) {
            check.same("type of the answer in " + line, method.getReturnType(), int.class);
            numbers.put(call.group(1), Integer.valueOf(got));
        }
    }

    private static List<Method> publicMethods() {
        return Stream.of(ProcessMill.class.getDeclaredMethods())
                .filter(method -> Modifier.isPublic(method.getModifiers())).toList();
    }

    private static Method methodNamed(String name, int parameters) {
        return publicMethods().stream()
                .filter(method -> method.getName().equals(name) && method.getParameterCount() == parameters)
                .findFirst().orElseThrow(() -> new IllegalStateException("README.md shows a call of no method: " + name));
    }

    private static String answer(ProcessMill mill, Method method, Object[] values) throws IllegalAccessException {
        try {
            Object got = method.invoke(mill, values);
            if (got == null) {
                return "";
            }
            return got.equals(ProcessMill.NONE) ? "NONE" : got.toString();
        } catch (InvocationTargetException e) {
            return "throws " + e.getCause().getClass().getSimpleName();
        }
    }

    /** The command that runs all tests runs this one, too, so that it is not run once more from here. */
    private static void commandsPass(String readme) throws Exception {
        List<String> commands = blocks(readme, "sh");
        check.same("all tests are run by", commands.contains(RUN_ALL + "\n"), true);
        check.same(RUN_ALL + " can be run", Files.isExecutable(Path.of(RUN_ALL)), true);
        check.same("there are other commands", commands.size() > 1, true);
        for (String command : commands) {
            if (!command.strip().equals(RUN_ALL)) {
                check.same("exit code of\n" + command, exitCode(command), 0);
            }
        }
    }

    private static int exitCode(String command) throws Exception {
        Path room = Files.createTempDirectory("readme");
        ProcessBuilder builder = new ProcessBuilder("sh", "-e", "-c", command).redirectErrorStream(true);
        builder.environment().put("TMPDIR", room.toString());
        Process process = builder.start();
        String said = new String(process.getInputStream().readAllBytes());
        int code = process.waitFor();
        if (code != 0) {
            System.out.println(said);
        }
        delete(room);
        return code;
    }

    private static void delete(Path room) throws IOException {
        try (Stream<Path> all = Files.walk(room)) {
            for (Path one : all.sorted(Comparator.reverseOrder()).toList()) {
                Files.delete(one);
            }
        }
    }

    private static void everyTestIsNamed(String readme) throws IOException {
        try (Stream<Path> files = Files.list(TESTS)) {
            for (Path file : files.sorted().toList()) {
                String name = file.getFileName().toString().replace(".java", "");
                check.same(name + " is named in README.md", readme.contains("`" + name + "`"), true);
            }
        }
    }

    private static void whatIsNamedIsThere(String readme) {
        Matcher test = Pattern.compile("`(\\w+Test)`").matcher(readme);
        while (test.find()) {
            check.same(test.group(1) + " is there", Files.exists(TESTS.resolve(test.group(1) + ".java")), true);
        }
        Matcher path = Pattern.compile("`((?:src|\\.ci)/[\\w./]*)`").matcher(readme);
        while (path.find()) {
            check.same(path.group(1) + " is there", Files.exists(Path.of(path.group(1))), true);
        }
    }
}
