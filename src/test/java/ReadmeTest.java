import java.io.IOException;
import java.lang.reflect.Method;
import java.lang.reflect.Modifier;
import java.nio.file.Files;
import java.nio.file.Path;
import java.util.ArrayList;
import java.util.List;
import java.util.Map;
import java.util.regex.Matcher;
import java.util.regex.Pattern;

/** What README.md shows as examples is compiled as it stands there and run: each call answers what the page says. */
public final class ReadmeTest {
    private static final Check CHECK = new Check();
    private static final Pattern BLOCK = Pattern.compile("(?m)^```java\\n((?s:.*?))^```$");
    // A call, and behind // its answer, perhaps with what it says.
    private static final Pattern SHOWN = Pattern.compile("(\\S.*\\)); +// (-?\\d+|NONE|BAD|STATE|FULL)(?:: .*)?");

    private final StringBuilder code = new StringBuilder();
    private final List<String> calls = new ArrayList<>();
    private final List<Long> due = new ArrayList<>();

    private ReadmeTest() {
    }

    public static void main(String[] args) throws IOException, ReflectiveOperationException {
        String page = Files.readString(Path.of("README.md"));
        ReadmeTest test = new ReadmeTest();
        Matcher block = BLOCK.matcher(page);
        while (block.find()) {
            for (String line : block.group(1).split("\n")) {
                test.take(line);
            }
        }
        test.run();
        test.wholeFace();
        mentions(page);
        CHECK.end();
    }

    private static void is(String what, boolean so) {
        CHECK.due(what, so ? 1 : 0, 1);
    }

    private void take(String line) {
        Matcher shown = SHOWN.matcher(line);
        if (shown.matches()) {
            code.append("answers[").append(calls.size()).append("] = ").append(shown.group(1)).append(";\n");
            calls.add(shown.group(1));
            due.add(number(shown.group(2)));
        } else {
            is("an answer is shown: " + line, !line.startsWith("x.") && !line.startsWith("new "));
            code.append(line).append('\n');
        }
    }

    private static long number(String answer) {
        switch (answer) {
            case "NONE": return Told.NONE;
            case "BAD": return Told.BAD;
            case "STATE": return Told.STATE;
            case "FULL": return Told.FULL;
            default: return Long.parseLong(answer);
        }
    }

    private void run() throws ReflectiveOperationException {
        String source = "public final class Shown { public static long[] answers() {\nlong[] answers = new long[" + calls.size()
            + "];\n" + code + "return answers; } }\n";
        Class<?> made = new Compiled(Map.of("Shown", source)).beside().loadClass("Shown");
        long[] answers = (long[]) made.getMethod("answers").invoke(null);
        for (int i = 0; i < answers.length; i++) {
            CHECK.due("README.md: " + calls.get(i), answers[i], due.get(i));
        }
    }

    /** No call of the face is left out. */
    private void wholeFace() {
        for (Method m : CoffinWays.class.getDeclaredMethods()) {
            if (Modifier.isPublic(m.getModifiers())) {
                is("README.md shows " + m.getName(), code.indexOf("." + m.getName() + "(") >= 0);
            }
        }
    }

    private static void mentions(String page) throws IOException {
        is("README.md tells of .ci/run", page.contains(".ci/run"));
        try (var files = Files.list(Path.of("src/test/java"))) {
            for (Path file : files.filter(f -> f.toString().endsWith("Test.java")).toList()) {
                String name = file.getFileName().toString().replace(".java", "");
                is("README.md tells of " + name, page.contains(name));
            }
        }
    }
}
