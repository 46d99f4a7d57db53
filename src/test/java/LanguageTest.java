import java.io.IOException;
import java.lang.management.ManagementFactory;
import java.lang.reflect.Constructor;
import java.lang.reflect.Field;
import java.lang.reflect.Method;
import java.lang.reflect.Modifier;
import java.nio.file.Files;
import java.nio.file.Path;
import java.util.ArrayList;
import java.util.List;
import java.util.Set;
import java.util.TreeSet;
import java.util.regex.Matcher;
import java.util.regex.Pattern;

/** The face is the document's, and the file keeps to what of LANGUAGE.md can be seen by looking. */
public final class LanguageTest {
    private static final Check CHECK = new Check();
    private static final Path FILE = Path.of("src/main/java/CoffinWays.java");
    private static final String[] FACE = {
        "int ahead(int)", "int as(int,int)", "int ask(int,int)", "int best(int)", "int bury(int)",
        "int copy(int,int,int,int,int)", "int count(int)", "int drawn(int,int,int)", "int drop(int)", "int far(int)",
        "int fault()", "int feed(int)", "int follow(int)", "int from(int,int)", "int goes(int,int)", "int image(int)",
        "int kind(int)", "int live(int,int)", "int lock(int,int)", "long locked(int,int,int)", "int lost(int)",
        "int makes(int)", "int must(int)", "int pairs()", "int parish()", "int path(int,int)", "int restore(int)",
        "int row(int,int,int)", "int set(int,int,int)", "int stand(int)", "int status()", "int stop(int,int)",
        "int trace(int)", "int undo()", "int who(int,int,int,int)", "int witness(int,int)", "int years(int)"};

    private LanguageTest() {
    }

    public static void main(String[] args) throws IOException {
        face();
        classes();
        words(Files.readString(FILE));
        lengths(Files.readAllLines(FILE));
        room();
        CHECK.end();
    }

    private static void is(String what, boolean so) {
        CHECK.due(what, so ? 1 : 0, 1);
    }

    private static void face() {
        Set<String> open = new TreeSet<>();
        Set<String> names = new TreeSet<>();
        for (Method m : CoffinWays.class.getDeclaredMethods()) {
            if (Modifier.isPublic(m.getModifiers())) {
                StringBuilder types = new StringBuilder();
                for (Class<?> type : m.getParameterTypes()) {
                    types.append(types.length() == 0 ? "" : ",").append(type);
                }
                open.add(m.getReturnType() + " " + m.getName() + "(" + types + ")");
                names.add(m.getName());
                is(m + " belongs to an object", !Modifier.isStatic(m.getModifiers()));
            } else {
                is(m + " is private", Modifier.isPrivate(m.getModifiers()));
            }
        }
        is("the face " + open, open.equals(new TreeSet<>(List.of(FACE))));
        for (Method m : CoffinWays.class.getDeclaredMethods()) {
            is(m + " has a name of its own", Modifier.isPublic(m.getModifiers()) || !names.contains(m.getName()));
        }
        Set<String> constants = new TreeSet<>();
        for (Field f : CoffinWays.class.getDeclaredFields()) {
            if (Modifier.isPublic(f.getModifiers())) {
                constants.add(f.getName());
                is(f + " is a constant", Modifier.isStatic(f.getModifiers()) && Modifier.isFinal(f.getModifiers()));
            } else {
                is(f + " is private", Modifier.isPrivate(f.getModifiers()));
            }
        }
        is("the constants " + constants, constants.equals(Set.of("NONE", "BAD", "STATE", "FULL")));
        Constructor<?>[] made = CoffinWays.class.getDeclaredConstructors();
        is("one constructor", made.length == 1 && made[0].getParameterCount() == 0 && Modifier.isPublic(made[0].getModifiers()));
        is("final", Modifier.isFinal(CoffinWays.class.getModifiers()));
    }

    private static void classes() {
        List<Class<?>> all = new ArrayList<>(List.of(CoffinWays.class.getDeclaredClasses()));
        for (Class<?> c : all) {
            is(c + " is static, and not public", Modifier.isStatic(c.getModifiers()) && !Modifier.isPublic(c.getModifiers()));
        }
        all.add(CoffinWays.class);
        is("at most twelve classes", all.size() <= 12);
        for (Class<?> c : all) {
            int fields = 0;
            for (Field f : c.getDeclaredFields()) {
                boolean fixed = Modifier.isStatic(f.getModifiers());
                fields += fixed ? 0 : 1;
                is(f + " is final if static", !fixed || Modifier.isFinal(f.getModifiers()));
            }
            is(c + " has at most twenty fields", fields <= 20);
            for (Method m : c.getDeclaredMethods()) {
                is(m + " has at most seven parameters", m.getParameterCount() <= 7);
            }
        }
    }

    private static void words(String source) {
        String code = source.replaceAll("(?s)/\\*.*?\\*/", "").replaceAll("//[^\n]*", "").replaceAll("'.'", "' '");
        String[] ruledOut = {"throw", "throws", "try", "catch", "synchronized", "assert", "import", "package", "protected",
            "Exact", "Object", "hashCode", "toString", "equals", "System\\.(?!arraycopy)", "native", "volatile", "Random"};
        for (String word : ruledOut) {
            Matcher m = Pattern.compile("\\b" + word).matcher(code);
            is("no " + word, !m.find());
        }
        is("no lambda", !code.contains("->"));
        is("no method reference", !code.contains("::"));
        is("no annotation", !code.contains("@"));
        is("no endless loop", !code.contains("while (true)") && !code.contains("for (;;)"));
        is("plain signs", source.chars().allMatch(c -> c == '\n' || c >= 32 && c < 127));
    }

    private static void lengths(List<String> lines) {
        Pattern head = Pattern.compile("^( {4}| {8})(?! )[^=]*\\) \\{$");
        for (int i = 0; i < lines.size(); i++) {
            Matcher m = head.matcher(lines.get(i));
            if (m.matches()) {
                int end = i;
                while (!lines.get(end).equals(m.group(1) + "}")) {
                    end++;
                }
                is(lines.get(i).trim() + " is short", end - i <= 60);
            }
        }
    }

    /** No call makes an object: what 512 of the dearest ones take stays far below the room. */
    private static void room() {
        com.sun.management.ThreadMXBean threads = (com.sun.management.ThreadMXBean) ManagementFactory.getThreadMXBean();
        play();
        long before = threads.getCurrentThreadAllocatedBytes();
        play();
        long taken = threads.getCurrentThreadAllocatedBytes() - before;
        is("the room of one run: " + taken + " bytes", taken < 64 * 1024);
    }

    private static void play() {
        CoffinWays x = new CoffinWays();
        String text = "c7,20;p0,1,1;p0,2,1;p1,3,1;p2,3,1;p3,4,1;p3,5,1;p4,6,1;p5,6,1;p6,7,1;p0,7,9;p1,7,8;p2,7,8;s0,0;m0,0;c12,3;f0,6;n20,7;";
        for (int i = 0; i < text.length(); i++) {
            x.feed(text.charAt(i));
        }
        x.parish();
        x.row(0, 2, 40);
        for (int k = 0; k < 30; k++) {
            x.locked(0, 3, 0);
            x.stop(0, 1);
            x.drawn(60, 1 + k, 0);
            x.lost(0);
            x.best(0);
            x.bury(k % 7);
            x.who(0, 0, 0, 4);
            x.from(0, 0);
            x.live(1, 1);
            x.must(0);
            x.ask(2, 0);
            x.image(k % 2);
        }
    }
}
