import java.io.IOException;
import java.lang.reflect.Method;
import java.lang.reflect.Modifier;
import java.nio.file.Files;
import java.nio.file.Path;
import java.util.ArrayList;
import java.util.HashMap;
import java.util.List;
import java.util.Map;
import java.util.TreeSet;
import java.util.concurrent.ExecutorService;
import java.util.concurrent.Executors;
import java.util.concurrent.Future;
import java.util.regex.Matcher;
import java.util.regex.Pattern;

/**
 * For each promise there is a test that fails if it is broken: the class is put behind a face that breaks one promise, one
 * sort of answer at a time, and PromisesTest or RefusalsTest has to see it. It hangs on no line of the class.
 */
public final class BrokenTest {
    private static final String[] SEEING = {"PromisesTest", "RefusalsTest"};

    /** The document's promises, each with the sorts of answers it names: 0, another NUMBER, refusals, findings, a FAULT. */
    private static final String[] PROMISES = {
        "2 row 0 NUMBER BAD SIZE", "3 set 0 NUMBER BAD NULL PLACE", "4 copy 0 NUMBER BAD NULL STORE PLACE", "5 drop 0 NUMBER BAD NULL",
        "6 feed NUMBER BAD FULL", "7 parish NUMBER FAULT", "8 fault 0 NUMBER", "9 undo 0 NUMBER STATE", "10 bury 0 NUMBER BAD STATE",
        "11 years 0 NUMBER BAD STATE FULL", "12 lock 0 NUMBER BAD STATE", "13 follow NUMBER BAD STATE", "14 witness 0 NUMBER BAD",
        "15 path 0 NUMBER BAD", "16 stand 0 NUMBER BAD STATE", "17 ahead 0 NUMBER BAD STATE", "18 lost 0 NUMBER NONE BAD",
        "19 goes 0 NUMBER NONE BAD STATE", "20 stop 0 NUMBER NONE BAD STATE", "21 must 0 NUMBER BAD STATE",
        "22 live 0 NUMBER NONE BAD STATE", "23 makes 0 NUMBER NONE BAD STATE", "24 best 0 NUMBER NONE BAD STATE",
        "25 from 0 NUMBER BAD STATE NULL PLACE", "26 who 0 NUMBER BAD NULL PLACE", "27 far 0 NUMBER NONE BAD STATE",
        "28 pairs 0 NUMBER STATE", "29 locked 0 NUMBER BAD STATE", "30 drawn 0 NUMBER BAD STATE", "31 image NUMBER BAD STATE",
        "32 restore NUMBER BAD STATE", "33 kind NUMBER BAD", "34 as 0 NUMBER BAD KIND", "35 ask NUMBER BAD", "36 trace NUMBER NONE",
        "37 count 0 NUMBER BAD", "38 status 0 NUMBER"};

    /** Those that leave something behind: it can be missing. */
    private static final List<String> LEAVING = List.of("row", "set", "copy", "drop", "feed", "parish", "undo", "bury", "years",
        "lock", "follow", "image", "restore", "ask", "as", "from", "who");

    // In place of the project's own, so that a test ends at its first wrong answer and does not end the machine.
    private static final String CHECK = "final class Check { void due(String c, long g, long w) {"
        + " if (g != w) { throw new IllegalStateException(c); } } int wrong() { return 0; } void end() { } }";

    /**
     * The face in front of the class; METHODS and CASES are filled in. HOW it breaks: "answers" otherwise; "moves" something
     * else, too; "idles", answering but leaving nothing behind; is "born" with a parish.
     */
    private static final String FACE = """
        import java.util.ArrayList;
        import java.util.List;
        public final class CoffinWays {
            public static final int NONE = Real.NONE, BAD = Real.BAD, STATE = Real.STATE, FULL = Real.FULL;
            public static String broken = "", sort = "", how = "";
            private record Past(String name, int[] a) { }
            private final List<Past> past = new ArrayList<>();
            private final Real real = new Real();
            public CoffinWays() {
                if (how.equals("born")) {
                    for (char c : "c0,20;p0,1,1;".toCharArray()) {
                        real.feed(c);
                    }
                    real.parish();
                }
            }
        METHODS
            private long call(String name, int... a) {
                if (name.equals(broken) && how.equals("idles")) {
                    Real twin = new Real();
                    past.forEach(p -> on(twin, p.name(), p.a()));
                    return on(twin, name, a);
                }
                past.add(new Past(name, a));
                long got = on(real, name, a);
                if (!name.equals(broken) || !sort.equals(sortOf(name, got))) {
                    return got;
                }
                if (how.equals("moves") && real.years(1) < 0) {
                    real.feed('x');
                }
                return how.equals("answers") ? otherThan(got) : got;
            }
            private static long otherThan(long got) {
                return got == BAD ? STATE : got < NONE && got >= -1000015 ? BAD : got == NONE ? 0 : got + 1;
            }
            private static String sortOf(String name, long got) {
                String[] sorts = {"NONE", "BAD", "STATE", "FULL"};
                String[] findings = {"NULL", "PLACE", "KIND", "SIZE", "STORE"};
                if (name.equals("parish") && got <= -1000100) {
                    return "FAULT";
                }
                return got <= NONE && got >= FULL ? sorts[(int) (NONE - got)]
                    : got <= -1000011 && got >= -1000015 ? findings[(int) (-1000011 - got)] : got == 0 ? "0" : "NUMBER";
            }
            private static long on(Real r, String name, int[] a) {
                switch (name) {
        CASES
                    default: throw new IllegalArgumentException(name);
                }
            }
        }
        """;

    private record Break(String promise, String method, String sort, String how) {
    }

    private BrokenTest() {
    }

    public static void main(String[] args) throws Exception {
        Check check = new Check();
        check.due("the table has each promise of the document", tableIsWhole() ? 1 : 0, 1);
        Compiled classes = new Compiled(sources());
        check.due("the tests pass by themselves", isSeen(classes, new Break("", "", "", "")) ? 1 : 0, 0);
        ExecutorService pool = Executors.newFixedThreadPool(Runtime.getRuntime().availableProcessors());
        Map<Break, Future<Boolean>> seen = new HashMap<>();
        for (Break b : breaks()) {
            seen.put(b, pool.submit(() -> isSeen(classes, b)));
        }
        for (Map.Entry<Break, Future<Boolean>> one : seen.entrySet()) {
            check.due("seen: " + one.getKey(), one.getValue().get() ? 1 : 0, 1);
        }
        pool.shutdown();
        check.end();
    }

    private static boolean tableIsWhole() throws IOException {
        TreeSet<String> told = new TreeSet<>();
        Matcher heading = Pattern.compile("(?m)^## Promise (\\d+: .*)$").matcher(Files.readString(Path.of("../shared/DOC.md")));
        while (heading.find()) {
            told.add(heading.group(1).replace(":", ""));
        }
        TreeSet<String> here = new TreeSet<>(List.of("1 A new object"));
        for (String promise : PROMISES) {
            here.add(promise.split(" ")[0] + " " + promise.split(" ")[1]);
        }
        return told.equals(here);
    }

    private static List<Break> breaks() {
        List<Break> all = new ArrayList<>();
        all.add(new Break("1", "CoffinWays", "", "born"));
        for (String promise : PROMISES) {
            String[] words = promise.split(" ");
            for (int i = 2; i < words.length; i++) {
                all.add(new Break(words[0], words[1], words[i], "answers"));
                all.add(new Break(words[0], words[1], words[i], "moves"));
            }
            if (LEAVING.contains(words[1])) {
                all.add(new Break(words[0], words[1], "", "idles"));
            }
        }
        return all;
    }

    private static Map<String, String> sources() throws IOException {
        Map<String, String> sources = new HashMap<>();
        String real = Files.readString(Path.of("src/main/java/CoffinWays.java"));
        sources.put("Real", real.replaceAll("\\bCoffinWays\\b", "Real"));
        sources.put("CoffinWays", face());
        sources.put("Check", CHECK);
        sources.put("Told", Files.readString(Path.of("src/test/java/Told.java")));
        for (String test : SEEING) {
            sources.put(test, Files.readString(Path.of("src/test/java/" + test + ".java")));
        }
        return sources;
    }

    private static String face() {
        StringBuilder methods = new StringBuilder();
        StringBuilder cases = new StringBuilder();
        for (Method m : CoffinWays.class.getDeclaredMethods()) {
            if (!Modifier.isPublic(m.getModifiers())) {
                continue;
            }
            List<String> told = new ArrayList<>();
            List<String> given = new ArrayList<>();
            List<String> taken = new ArrayList<>();
            for (int i = 0; i < m.getParameterCount(); i++) {
                told.add("int a" + i);
                given.add(", a" + i);
                taken.add("a[" + i + "]");
            }
            String type = m.getReturnType().getName();
            methods.append(String.format("    public %s %s(%s) { return (%s) call(\"%s\"%s); }%n", type, m.getName(),
                String.join(", ", told), type, m.getName(), String.join("", given)));
            cases.append(String.format("            case \"%s\": return r.%s(%s);%n", m.getName(), m.getName(), String.join(", ", taken)));
        }
        return FACE.replace("METHODS", methods).replace("CASES", cases);
    }

    private static boolean isSeen(Compiled classes, Break b) throws ReflectiveOperationException {
        ClassLoader loader = classes.apart();
        Class<?> face = loader.loadClass("CoffinWays");
        face.getField("broken").set(null, b.method);
        face.getField("sort").set(null, b.sort);
        face.getField("how").set(null, b.how);
        for (String test : SEEING) {
            try {
                loader.loadClass(test).getMethod("main", String[].class).invoke(null, (Object) new String[0]);
            } catch (java.lang.reflect.InvocationTargetException thrown) {
                return true;
            }
        }
        return false;
    }
}
