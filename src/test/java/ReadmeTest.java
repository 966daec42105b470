import java.io.IOException;
import java.lang.reflect.Method;
import java.lang.reflect.Modifier;
import java.nio.file.Files;
import java.nio.file.Path;
import java.util.List;
import java.util.TreeSet;
import java.util.regex.Matcher;
import java.util.regex.Pattern;
import java.util.stream.Collectors;
import java.util.stream.Stream;

/** README.md says what the class answers, and its way to run the tests runs all of them. */
public final class ReadmeTest {
    private static final Check CHECK = new Check("ReadmeTest");
    private static final Path README = Path.of("README.md");
    private static final Path TESTS = Path.of("src/test/java");
    private static final Path RUN = Path.of(".ci/run");

    private static final String NEW_OBJECT = "IssueRows rows = new IssueRows();";
    private static final Pattern CALL = Pattern.compile("rows\\.(\\w+)\\(([-0-9, ]+)\\); +// ([-\\w]+)(:.*)?");

    public static void main(String[] args) throws IOException {
        answers(Files.readAllLines(README));
        everyTest(Files.readString(README));
        CHECK.end();
    }

    private static void answers(List<String> lines) {
        TreeSet<String> used = new TreeSet<>();
        IssueRows rows = null;
        boolean inBlock = false;
        for (String line : lines) {
            if (line.startsWith("```")) {
                inBlock = line.equals("```java");
                rows = null;
            } else if (inBlock && line.equals(NEW_OBJECT)) {
                rows = new IssueRows();
            } else if (inBlock && !line.isEmpty() && !line.startsWith("//")) {
                answer(rows, line, used);
            }
        }
        everyMethod(used);
    }

    private static void answer(IssueRows rows, String line, TreeSet<String> used) {
        Matcher call = CALL.matcher(line);
        if (rows == null || !call.matches()) {
            CHECK.fail("no call with its answer, on an object: " + line);
            return;
        }
        used.add(call.group(1));
        int got = Calls.make(rows, call.group(1) + " " + call.group(2).replace(",", ""));
        CHECK.due(line, got, number(call.group(3)));
    }

    private static int number(String answer) {
        switch (answer) {
            case "NONE":
                return IssueRows.NONE;
            case "RANGE":
                return IssueRows.RANGE;
            case "STATE":
                return IssueRows.STATE;
            case "FULL":
                return IssueRows.FULL;
            case "IndexOutOfBoundsException":
                return Calls.THROWS;
            default:
                return Integer.parseInt(answer);
        }
    }

    private static void everyMethod(TreeSet<String> used) {
        for (Method method : IssueRows.class.getDeclaredMethods()) {
            if (Modifier.isPublic(method.getModifiers()) && !used.contains(method.getName())) {
                CHECK.fail("README.md does not use " + method.getName());
            }
        }
    }

    private static void everyTest(String readme) throws IOException {
        CHECK.due("README.md names .ci/run", readme.contains("`.ci/run`") ? 1 : 0, 1);
        CHECK.due(".ci/run can be run", Files.isExecutable(RUN) ? 1 : 0, 1);
        String run = Files.readString(RUN);
        CHECK.due(".ci/run goes over the project's tests", run.contains("src/test/java/*Test.java") ? 1 : 0, 1);
        CHECK.due(".ci/run goes over the shared tests", run.contains("../shared/tests/*.java") ? 1 : 0, 1);
        for (Path file : filesOf(TESTS)) {
            String name = file.getFileName().toString();
            boolean test = name.endsWith("Test.java");
            String named = test ? "| " + name.replace(".java", "") + " |" : "`" + name + "`";
            if (!readme.contains(named)) {
                CHECK.fail("README.md does not name " + file);
            }
            if (!test && Files.readString(file).contains("void main(")) {
                CHECK.fail(".ci/run does not run " + file);
            }
        }
    }

    private static List<Path> filesOf(Path directory) throws IOException {
        try (Stream<Path> files = Files.list(directory)) {
            return files.sorted().collect(Collectors.toList());
        }
    }
}
