import java.io.ByteArrayOutputStream;
import java.io.IOException;
import java.io.OutputStream;
import java.io.PrintStream;
import java.net.URI;
import java.nio.file.Files;
import java.nio.file.Path;
import java.util.ArrayList;
import java.util.Arrays;
import java.util.HashMap;
import java.util.List;
import java.util.Map;
import java.util.concurrent.ExecutorService;
import java.util.concurrent.Executors;
import java.util.concurrent.TimeUnit;
import java.util.concurrent.atomic.AtomicInteger;
import java.util.regex.Matcher;
import java.util.regex.Pattern;
import javax.tools.FileObject;
import javax.tools.ForwardingJavaFileManager;
import javax.tools.JavaCompiler;
import javax.tools.JavaFileManager;
import javax.tools.JavaFileObject;
import javax.tools.SimpleJavaFileObject;
import javax.tools.ToolProvider;

/**
 * Breaks the class in one place at a time and tells which breaks the tests do not see:
 * java src/test/tools/Mutants.java TextEdgesTest LifeEdgesTest .. (from the project's directory).
 */
public final class Mutants {
    private static final Path CLASS = Path.of("src/main/java/CoffinWays.java");
    private static final Path TESTS = Path.of("src/test/java");
    // In place of the project's own, so that a test ends at its first wrong answer and does not end the machine.
    private static final String CHECK = "final class Check { void due(String c, long g, long w) {"
        + " if (g != w) { throw new IllegalStateException(c); } } int wrong() { return 0; } void end() { } }";
    private static final String[][] SWAPS = {{" < ", " <= "}, {" <= ", " < "}, {" > ", " >= "}, {" >= ", " > "}, {" == ", " != "},
        {" != ", " == "}, {" && ", " || "}, {" || ", " && "}, {" + ", " - "}, {" - ", " + "}, {" & ", " | "}, {" | ", " & "},
        {" |= ", " = "}, {" &= ", " = "}, {" % ", " / "}, {"++", "--"}, {"--", "++"}, {"!", ""}, {"~", ""}};

    private record Mutant(int line, String was, String is, String source) {
    }

    private static final class Kept extends SimpleJavaFileObject {
        private final String source;
        private final ByteArrayOutputStream bytes = new ByteArrayOutputStream();

        Kept(String name, String source, Kind kind) {
            super(URI.create("mem:///" + name.replace('.', '/') + kind.extension), kind);
            this.source = source;
        }

        @Override
        public CharSequence getCharContent(boolean ignored) {
            return source;
        }

        @Override
        public OutputStream openOutputStream() {
            return bytes;
        }
    }

    private static final class Loader extends ClassLoader {
        private final Map<String, byte[]> classes;

        Loader(Map<String, byte[]> classes) {
            super(ClassLoader.getPlatformClassLoader());
            this.classes = classes;
        }

        @Override
        protected Class<?> findClass(String name) throws ClassNotFoundException {
            byte[] bytes = classes.get(name);
            if (bytes == null) {
                throw new ClassNotFoundException(name);
            }
            return defineClass(name, bytes, 0, bytes.length);
        }
    }

    private Mutants() {
    }

    /** The classes of these sources by name; null: they do not compile. */
    private static Map<String, byte[]> compiled(Map<String, String> sources) {
        JavaCompiler javac = ToolProvider.getSystemJavaCompiler();
        List<Kept> out = new ArrayList<>();
        List<String> names = new ArrayList<>();
        JavaFileManager files = new ForwardingJavaFileManager<>(javac.getStandardFileManager(null, null, null)) {
            @Override
            public JavaFileObject getJavaFileForOutput(Location at, String name, JavaFileObject.Kind kind, FileObject sibling) {
                Kept kept = new Kept(name, null, kind);
                out.add(kept);
                names.add(name);
                return kept;
            }
        };
        List<Kept> in = new ArrayList<>();
        sources.forEach((name, source) -> in.add(new Kept(name, source, JavaFileObject.Kind.SOURCE)));
        if (!javac.getTask(new java.io.StringWriter(), files, d -> { }, List.of("-nowarn", "-proc:none"), null, in).call()) {
            return null;
        }
        Map<String, byte[]> classes = new HashMap<>();
        for (int i = 0; i < out.size(); i++) {
            classes.put(names.get(i), out.get(i).bytes.toByteArray());
        }
        return classes;
    }

    private static List<Mutant> mutants(List<String> lines) {
        List<Mutant> all = new ArrayList<>();
        for (int i = 0; i < lines.size(); i++) {
            String line = lines.get(i);
            String code = line.trim();
            if (code.startsWith("//") || code.startsWith("*") || code.startsWith("/*")) {
                continue;
            }
            for (String[] swap : SWAPS) {
                for (int at = line.indexOf(swap[0]); at >= 0; at = line.indexOf(swap[0], at + 1)) {
                    add(all, lines, i, line.substring(0, at) + swap[1] + line.substring(at + swap[0].length()));
                }
            }
            Matcher number = Pattern.compile("(?<![A-Za-z0-9_'])\\d+(?![A-Za-z0-9_'])").matcher(line);
            while (number.find()) {
                long value = Long.parseLong(number.group());
                add(all, lines, i, line.substring(0, number.start()) + (value + 1) + line.substring(number.end()));
                add(all, lines, i, line.substring(0, number.start()) + (value - 1) + line.substring(number.end()));
            }
            if (code.endsWith(";") && !code.startsWith("return") && !code.contains("final ")) {
                add(all, lines, i, "");
            }
            if (code.startsWith("if (") && code.endsWith(") {")) {
                String condition = code.substring(4, code.length() - 3);
                add(all, lines, i, "if (" + "0 > 1 && (" + condition + ")) {");
                dropParts(all, lines, i, condition);
                swapWithNext(all, lines, i);
            }
            if (code.startsWith("return ") && code.endsWith(";") && !code.equals("return 0;")) {
                add(all, lines, i, "return 0;");
            }
        }
        return all;
    }

    private static void add(List<Mutant> all, List<String> lines, int i, String is) {
        List<String> changed = new ArrayList<>(lines);
        changed.set(i, is);
        all.add(new Mutant(i + 1, lines.get(i).trim(), is.trim(), String.join("\n", changed)));
    }

    private static void dropParts(List<Mutant> all, List<String> lines, int i, String condition) {
        for (String joint : new String[] {" || ", " && "}) {
            List<String> parts = List.of(condition.split(Pattern.quote(joint)));
            for (int k = 0; k < parts.size() && parts.size() > 1; k++) {
                List<String> left = new ArrayList<>(parts);
                left.remove(k);
                add(all, lines, i, "if (" + String.join(joint, left) + ") {");
            }
        }
    }

    /** Two refusals, one behind the other, in the other order. */
    private static void swapWithNext(List<Mutant> all, List<String> lines, int i) {
        if (i + 5 < lines.size() && lines.get(i + 3).trim().startsWith("if (") && lines.get(i + 2).trim().equals("}")
            && lines.get(i + 5).trim().equals("}")) {
            List<String> changed = new ArrayList<>(lines);
            for (int k = 0; k < 3; k++) {
                changed.set(i + k, lines.get(i + 3 + k));
                changed.set(i + 3 + k, lines.get(i + k));
            }
            all.add(new Mutant(i + 1, lines.get(i).trim(), "(behind) " + lines.get(i + 3).trim(), String.join("\n", changed)));
        }
    }

    /** The test that saw it; null: none did. */
    @SuppressWarnings("deprecation")
    private static String seenBy(Map<String, byte[]> classes, String[] tests) throws InterruptedException {
        Loader loader = new Loader(classes);
        for (String test : tests) {
            boolean[] fine = new boolean[1];
            Thread thread = new Thread(() -> {
                try {
                    loader.loadClass(test).getMethod("main", String[].class).invoke(null, (Object) new String[0]);
                    fine[0] = true;
                } catch (ReflectiveOperationException | LinkageError e) {
                    fine[0] = false;
                }
            });
            thread.setDaemon(true);
            thread.start();
            thread.join(TimeUnit.SECONDS.toMillis(30));
            if (thread.isAlive()) {
                thread.stop();
            }
            if (!fine[0]) {
                return test;
            }
        }
        return null;
    }

    public static void main(String[] tests) throws IOException, InterruptedException {
        Map<String, String> sources = new HashMap<>();
        try (var files = Files.list(TESTS)) {
            for (Path file : files.toList()) {
                sources.put(file.getFileName().toString().replace(".java", ""), Files.readString(file));
            }
        }
        sources.put("Check", CHECK);
        sources.put("CoffinWays", Files.readString(CLASS));
        Map<String, byte[]> all = compiled(sources);
        if (all == null || seenBy(all, tests) != null) {
            System.out.println("the tests do not pass by themselves");
            System.exit(1);
        }
        List<Mutant> mutants = mutants(Files.readAllLines(CLASS));
        AtomicInteger ran = new AtomicInteger();
        Map<String, Integer> seen = new HashMap<>();
        List<String> unseen = new ArrayList<>();
        PrintStream out = System.out;
        ExecutorService pool = Executors.newFixedThreadPool(Runtime.getRuntime().availableProcessors());
        for (Mutant m : mutants) {
            pool.submit(() -> {
                Map<String, byte[]> own = compiled(Map.of("CoffinWays", m.source));
                if (own == null) {
                    return null;
                }
                Map<String, byte[]> classes = new HashMap<>(all);
                classes.keySet().removeIf(name -> name.startsWith("CoffinWays"));
                classes.putAll(own);
                String by = seenBy(classes, tests);
                synchronized (seen) {
                    ran.incrementAndGet();
                    if (by == null) {
                        unseen.add(String.format("%4d  %s%n   => %s", m.line, m.was, m.is.isEmpty() ? "(left out)" : m.is));
                    } else {
                        seen.merge(by, 1, Integer::sum);
                    }
                }
                return null;
            });
        }
        pool.shutdown();
        pool.awaitTermination(2, TimeUnit.HOURS);
        unseen.sort(null);
        unseen.forEach(out::println);
        out.println(ran + " breaks by " + Arrays.toString(tests) + ": " + unseen.size() + " unseen; seen first by " + seen);
        System.exit(0);
    }
}
