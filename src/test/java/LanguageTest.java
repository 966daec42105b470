import com.sun.management.ThreadMXBean;
import java.io.IOException;
import java.lang.management.ManagementFactory;
import java.lang.reflect.Field;
import java.lang.reflect.Method;
import java.lang.reflect.Modifier;
import java.nio.file.Files;
import java.nio.file.Path;
import java.util.ArrayList;
import java.util.List;
import java.util.Set;
import java.util.TreeSet;
import java.util.regex.Matcher;
import java.util.regex.Pattern;

/**
 * What can be looked at from outside of LANGUAGE.md's rules 1, 2, 4, 5, 6, 11 and 12: by
 * reflection, in the text of the class, and by what a run makes. The others need a reader.
 */
public final class LanguageTest {
    private static final Check CHECK = new Check("LanguageTest");
    private static final Path SOURCE = Path.of("src/main/java/IssueRows.java");

    private static final String[] FORBIDDEN = {
        "\\bpackage\\b", "->", "::", "\\bfinally\\b", "\\bsynchronized\\b", "\\bassert\\b", "\\bThread\\b",
        "\\bRandom\\b", "\\bprotected\\b", "Exact\\(", "\\bgetMessage\\b", "\\bgetClass\\b",
        "\\bhashCode\\b", "\\btoString\\b", "System\\.(?!arraycopy\\b)", "\\bstatic \\{", "\\btry \\(",
        // The class needs no catch, so none can answer a call by what the machine throws.
        "\\bcatch\\b",
    };

    private static final Set<String> IMPORTS = Set.of("java.util.ArrayList", "java.util.List", "java.util.Iterator",
        "java.util.Arrays", "java.util.NoSuchElementException");

    private static final Set<Class<?>> CONSTANTS = Set.of(int.class, long.class, boolean.class, char.class,
        String.class, int[].class, long[].class, char[].class, byte[].class);

    private static final int MOST_CLASSES = 12;
    private static final int MOST_FIELDS = 20;
    private static final int MOST_PARAMETERS = 7;
    private static final int MOST_LINES = 60;

    // An element takes 4 bytes, an object at least 16: far below the room's 7.3 million and 600,000.
    private static final long MOST_BYTES = 100000;

    public static void main(String[] args) throws IOException {
        List<String> lines = Files.readAllLines(SOURCE);
        words(withoutComments(String.join("\n", lines)));
        methodLengths(lines);
        classes();
        room();
        CHECK.end();
    }

    private static String withoutComments(String text) {
        return text.replaceAll("(?s)/\\*.*?\\*/", "").replaceAll("//[^\n]*", "");
    }

    private static void words(String text) {
        for (String word : FORBIDDEN) {
            if (Pattern.compile(word).matcher(text).find()) {
                CHECK.fail("the text has " + word);
            }
        }
        Matcher imports = Pattern.compile("\\bimport ([\\w.*]+)").matcher(text);
        while (imports.find()) {
            if (!IMPORTS.contains(imports.group(1))) {
                CHECK.fail("rule 4: import of " + imports.group(1));
            }
        }
        Matcher thrown = Pattern.compile("\\bthrow\\b(?! new IndexOutOfBoundsException\\((\"[^\"]*\")?\\);)").matcher(text);
        CHECK.due("rule 6: throws of another exception", thrown.find() ? 1 : 0, 0);
    }

    /** A method ends with the brace that stands under the first letter of its head. */
    private static void methodLengths(List<String> lines) {
        Pattern head = Pattern.compile("( +)[\\w\\[\\] ]+\\([^;]*\\{");
        for (int from = 0; from < lines.size(); from++) {
            Matcher found = head.matcher(lines.get(from));
            if (!found.matches()) {
                continue;
            }
            int to = from;
            while (to < lines.size() && !lines.get(to).equals(found.group(1) + "}")) {
                to++;
            }
            if (to - from + 1 > MOST_LINES) {
                CHECK.fail("rule 11: too long: " + lines.get(from).trim());
            }
        }
    }

    private static void classes() {
        List<Class<?>> all = new ArrayList<>();
        all.add(IssueRows.class);
        for (Class<?> inside : IssueRows.class.getDeclaredClasses()) {
            all.add(inside);
            int bits = inside.getModifiers();
            if (!Modifier.isStatic(bits) || Modifier.isPublic(bits) || Modifier.isProtected(bits)) {
                CHECK.fail("rule 1: static, and private or package-visible: " + inside);
            }
        }
        CHECK.due("rule 11: some twelve classes", all.size() <= MOST_CLASSES ? 1 : 0, 1);
        for (Class<?> each : all) {
            fields(each);
            methods(each);
        }
    }

    private static void fields(Class<?> each) {
        int own = 0;
        for (Field field : each.getDeclaredFields()) {
            int bits = field.getModifiers();
            if (!Modifier.isStatic(bits)) {
                own++;
            } else if (!Modifier.isFinal(bits) || !CONSTANTS.contains(field.getType())) {
                CHECK.fail("rule 5: static fields are final constants: " + field);
            }
        }
        CHECK.due("rule 11: some twenty fields of " + each, own <= MOST_FIELDS ? 1 : 0, 1);
    }

    private static void methods(Class<?> each) {
        Set<String> face = new TreeSet<>();
        for (Method method : IssueRows.class.getDeclaredMethods()) {
            if (Modifier.isPublic(method.getModifiers())) {
                face.add(method.getName());
            }
        }
        for (Method method : each.getDeclaredMethods()) {
            if (method.getParameterCount() > MOST_PARAMETERS) {
                CHECK.fail("rule 11: at most seven parameters: " + method);
            }
            if (!Modifier.isPublic(method.getModifiers()) && face.contains(method.getName())) {
                CHECK.fail("rule 1: the name of a public method: " + method);
            }
        }
    }

    private static void room() {
        ThreadMXBean thread = (ThreadMXBean) ManagementFactory.getThreadMXBean();
        dearestRun();
        long before = thread.getThreadAllocatedBytes(Thread.currentThread().getId());
        dearestRun();
        long made = thread.getThreadAllocatedBytes(Thread.currentThread().getId()) - before;
        if (made > MOST_BYTES) {
            CHECK.fail("rule 12: a run of 512 calls makes " + made + " bytes");
        }
    }

    /** As many issues, volumes, rounds and statements as 512 calls can have. */
    private static void dearestRun() {
        IssueRows rows = new IssueRows();
        for (int ordinal = 1; ordinal <= 200; ordinal++) {
            rows.issue(0, ordinal, 0);
        }
        for (int issue = 0; issue < 200; issue++) {
            rows.checkIn(issue, 1, 1);
        }
        for (int volume = 0; volume < 40; volume++) {
            rows.bind(0, 4);
        }
        for (int call = 0; call < 36; call++) {
            rows.claim(1000000);
            rows.statement(0);
        }
    }
}
