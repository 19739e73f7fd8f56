import java.io.IOException;
import java.lang.reflect.Method;
import java.lang.reflect.Modifier;
import java.nio.file.Files;
import java.nio.file.Path;
import java.util.ArrayList;
import java.util.Arrays;
import java.util.List;
import java.util.function.IntSupplier;
import java.util.stream.Collectors;
import java.util.stream.Stream;

/** README.md: its example answers what it says there, and its tables leave nothing out. */
public final class ReadmeTest {
    private static final int NONE = BreakPlaces.NONE;
    private static final Checks CHECKS = new Checks();

    private final String readme;
    /** The lines of the first example that have not been looked at. */
    private final List<String> lines;

    private ReadmeTest(String readme) {
        this.readme = readme;
        lines = new ArrayList<>(Arrays.asList(block("```java\n").split("\n")));
    }

    public static void main(String[] args) throws IOException {
        ReadmeTest test = new ReadmeTest(Files.readString(Path.of("README.md")));
        test.checkExample();
        test.checkLines();
        test.checkCalls();
        test.checkClasses();
        test.checkTests();
        CHECKS.finish();
    }

    /** What stands in the first block of a kind. */
    private String block(String fence) {
        int start = readme.indexOf(fence);
        int end = start < 0 ? -1 : readme.indexOf("```", start + fence.length());
        if (end < 0) {
            throw new AssertionError("README.md has no block " + fence.trim());
        }
        return readme.substring(start + fence.length(), end);
    }

    private void checkExample() {
        is("BreakPlaces x = new BreakPlaces();");
        BreakPlaces x = new BreakPlaces();
        is("x.property('a', 'z', 27);");
        x.property('a', 'z', 27);
        is("x.property(' ', ' ', 4);");
        x.property(' ', ' ', 4);
        is("x.property('(', '(', 20);");
        x.property('(', '(', 20);
        answers("x.add('a', ' ', '(', 'b', BreakPlaces.NONE);", () -> x.add('a', ' ', '(', 'b', NONE));
        answers("x.breaks(2);", () -> x.breaks(2));
        answers("x.rule(2);", () -> x.rule(2));
        answers("x.rule(3);", () -> x.rule(3));
        answers("x.next(0);", () -> x.next(0));
        answers("x.fit(0, 1);", () -> x.fit(0, 1));
        answers("x.replace(1, 2, BreakPlaces.NONE, BreakPlaces.NONE, BreakPlaces.NONE);",
                () -> x.replace(1, 2, NONE, NONE, NONE));
        answers("x.rule(1);", () -> x.rule(1));
        is("x.mark('(', '(', 0, true);");
        x.mark('(', '(', 0, true);
        answers("x.rule(1);", () -> x.rule(1));
        answers("x.count(2);", () -> x.count(2));
        answers("x.at(3);", () -> x.at(3));
        CHECKS.sameText("lines of the example that are left", String.join("\n", lines), "");
    }

    /** The next line of the example holds this call; answers the comment behind it. */
    private String is(String call) {
        String line = lines.isEmpty() ? "" : lines.remove(0);
        int comment = line.indexOf("//");
        String shown = comment < 0 ? line : line.substring(0, comment).trim();
        CHECKS.sameText("a call of the example", shown, call);
        return comment < 0 ? "" : line.substring(comment + 2).trim();
    }

    /** The comment begins with the answer; a word to explain it may stand behind a colon. */
    private void answers(String call, IntSupplier run) {
        String said = is(call).split(":")[0];
        String got = call.startsWith("x.breaks") ? how(run.getAsInt()) : answerOf(run);
        CHECKS.sameText(call, got, said);
    }

    private static String answerOf(IntSupplier run) {
        try {
            return String.valueOf(run.getAsInt());
        } catch (RuntimeException thrown) {
            return thrown.getClass().getSimpleName();
        }
    }

    private static String how(int breaks) {
        return breaks == BreakPlaces.MUST ? "MUST" : breaks == BreakPlaces.MAY ? "MAY" : "FORBIDDEN";
    }

    /** The second example: the lines of a text, one behind the other, and then it ends. */
    private void checkLines() {
        CHECKS.same("many = x.fit(p, 60)", readme.contains("many = x.fit(p, 60);"), true);
        BreakPlaces x = Texts.empty();
        for (int i = 0; i < 100; i++) {
            Texts.append(x, i % 20 == 19 ? "AL CM SP AL LF" : "AL AL AL SP SP");
        }
        int many;
        int found = 0;
        for (int p = 0; p < x.count(0) && found < 100; p += many) {
            many = x.fit(p, 60);
            CHECKS.same("characters of line " + found, many, found % 2 == 0 ? 60 : 40);
            CHECKS.same("line " + found + " ends", x.breaks(p + many) != BreakPlaces.FORBIDDEN, true);
            found++;
        }
        CHECKS.same("lines", found, 10);
    }

    private void checkCalls() {
        for (Method call : BreakPlaces.class.getDeclaredMethods()) {
            if (Modifier.isPublic(call.getModifiers())) {
                checkCall(call);
            }
        }
    }

    private void checkCall(Method call) {
        String start = "| `" + call.getName() + "(";
        String row = readme.lines().filter(line -> line.startsWith(start)).findFirst().orElse("");
        CHECKS.same("a row for " + call.getName(), row.isEmpty(), false);
        String due = Stream.of(call.getExceptionTypes())
                .map(e -> e.getSimpleName().replace("Exception", "")).collect(Collectors.joining(", "));
        String[] cells = row.split("\\|");
        CHECKS.sameText("exceptions of " + call.getName(), cells[cells.length - 1].trim(), due);
    }

    private void checkClasses() {
        String[] words = block("```text\n").trim().split("\\s+");
        CHECKS.same("names and numbers of classes", words.length, 2 * Texts.NAMES.size());
        for (int i = 0; i + 1 < words.length; i += 2) {
            CHECKS.same("number of " + words[i], Integer.parseInt(words[i + 1]), Texts.classOf(words[i]));
        }
    }

    private void checkTests() throws IOException {
        try (Stream<Path> files = Files.list(Path.of("src/test/java"))) {
            files.map(f -> f.getFileName().toString().replace(".java", "")).filter(n -> n.endsWith("Test"))
                    .forEach(n -> CHECKS.same("a row for " + n, readme.contains("| `" + n + "` |"), true));
        }
    }
}
