import java.io.IOException;
import java.lang.reflect.Method;
import java.lang.reflect.Modifier;
import java.nio.charset.StandardCharsets;
import java.nio.file.Files;
import java.nio.file.Path;
import java.util.List;
import java.util.regex.MatchResult;
import java.util.regex.Pattern;
import java.util.stream.Collectors;
import java.util.stream.Stream;

/** README.md: its example answers so, its tables are whole, and its way to run tests is that of .ci/run. */
public final class ReadmeTest {
    private static final Check check = new Check();

    public static void main(String[] args) throws ReflectiveOperationException, IOException {
        String readme = Files.readString(Path.of("README.md"), StandardCharsets.UTF_8);
        theExampleAnswersSo(readme);
        everyCallIsTold(readme);
        everyKeyIsTold(readme);
        everyTestIsTold(readme);
        testsAreRunAsByCi(readme);
        check.end();
    }

    private static void theExampleAnswersSo(String readme) throws ReflectiveOperationException {
        List<MatchResult> calls = found(readme, "(?m)^desk\\.(\\w+)\\(([^)]*)\\); *// (-?\\d+):");
        MatchResult made = found(readme, "new DungeonDesk\\((-?\\d+)\\)").get(0);
        DungeonDesk desk = new DungeonDesk(Integer.parseInt(made.group(1)));
        check.due("calls with an answer", calls.size(), found(readme, "(?m)^desk\\.").size());
        check.holds("the example has calls", calls.size() >= 8);
        for (MatchResult call : calls) {
            long due = Long.parseLong(call.group(3));
            check.due(call.group(1) + "(" + call.group(2) + ")", ask(desk, call.group(1), call.group(2)), due);
        }
    }

    private static long ask(DungeonDesk desk, String name, String arguments) throws ReflectiveOperationException {
        Object[] numbers = Stream.of(arguments.split(", ")).map(ReadmeTest::number).toArray();
        Class<?>[] types = Stream.of(numbers).map(number -> int.class).toArray(Class<?>[]::new);
        return ((Number) DungeonDesk.class.getMethod(name, types).invoke(desk, numbers)).longValue();
    }

    private static Integer number(String argument) {
        return argument.startsWith("'") ? argument.charAt(1) : Integer.parseInt(argument);
    }

    private static List<MatchResult> found(String text, String pattern) {
        return Pattern.compile(pattern).matcher(text).results().collect(Collectors.toList());
    }

    private static void everyCallIsTold(String readme) {
        for (Method method : DungeonDesk.class.getDeclaredMethods()) {
            if (Modifier.isPublic(method.getModifiers())) {
                check.holds(method.getName() + " has a row", readme.contains("\n| `" + method.getName() + "("));
            }
        }
        check.holds("REFUSED", readme.contains("`REFUSED` (" + DungeonDesk.REFUSED + ")"));
        check.holds("NONE", readme.contains("`NONE`\n(" + DungeonDesk.NONE + ")"));
    }

    /** One column of the table has all keys, and nothing that is none. */
    private static void everyKeyIsTold(String readme) {
        StringBuilder told = new StringBuilder();
        for (MatchResult row : found(readme, "(?m)^\\| ((?:`.` ?)+)\\|")) {
            told.append(row.group(1).replaceAll("[` ]", ""));
        }
        for (int c = 0; c < 256; c++) {
            boolean isKey = new DungeonDesk(1).key(c) != DungeonDesk.REFUSED;
            check.holds("key " + c + " is told if it is one", isKey == told.indexOf(String.valueOf((char) c)) >= 0);
        }
    }

    private static void everyTestIsTold(String readme) throws IOException {
        try (Stream<Path> files = Files.list(Path.of("src/test/java"))) {
            for (Path file : files.sorted().collect(Collectors.toList())) {
                String name = file.getFileName().toString().replace(".java", "");
                check.holds(name + " is told", readme.contains("`" + name + "`"));
            }
        }
    }

    /** Line by line: a command of README.md stands in .ci/run, too, or is .ci/run itself. */
    private static void testsAreRunAsByCi(String readme) throws IOException {
        String ci = Files.readString(Path.of(".ci/run"), StandardCharsets.UTF_8);
        check.holds(".ci/run may be run", Files.isExecutable(Path.of(".ci/run")));
        check.holds("README.md tells .ci/run", readme.contains("```sh\n.ci/run\n```"));
        int commands = 0;
        for (MatchResult block : found(readme, "(?s)```sh\n(.*?)```")) {
            for (String line : block.group(1).split("\n")) {
                if (line.startsWith("java")) {
                    commands++;
                    check.holds("\"" + line + "\" stands in .ci/run", ci.contains(line));
                }
            }
        }
        check.due("commands", commands, 3);
    }
}
