import java.lang.reflect.Method;
import java.util.ArrayList;
import java.util.Arrays;
import java.util.Comparator;
import java.util.List;
import java.util.Random;

/** Runs of calls by chance (the same at each start), each answered by the class and by the model. */
public final class ModelTest {
    private static final int RUNS = 1200, CALLS = 420;

    private final Check check = new Check();
    private final List<Method> methods = new ArrayList<>();
    private Random random;
    private CoffinWays x;
    private Model model;
    private int run;
    private int paths;
    private int witnesses;

    private ModelTest() {
        for (Method m : CoffinWays.class.getDeclaredMethods()) {
            if (java.lang.reflect.Modifier.isPublic(m.getModifiers())) {
                methods.add(m);
            }
        }
        methods.sort(Comparator.comparing(Method::getName));
    }

    public static void main(String[] args) throws ReflectiveOperationException {
        ModelTest test = new ModelTest();
        for (int run = 0; run < RUNS && test.check.wrong() == 0; run++) {
            test.play(run);
        }
        test.check.end();
    }

    private void play(int number) throws ReflectiveOperationException {
        run = number;
        random = new Random(number);
        x = new CoffinWays();
        model = new Model();
        if (number % 8 != 0) {
            tell(text());
        }
        int left = CALLS - 140;
        while (left > 0 && check.wrong() == 0) {
            if (random.nextInt(150) == 0) {
                String text = random.nextBoolean() ? text() : spoilt(text());
                tell(text);
                left -= text.length();
            } else if (random.nextInt(12) == 0) {
                row();
                left -= 31;
            } else {
                Method m = methods.get(random.nextInt(methods.size()));
                boolean rare = m.getName().equals("feed") || m.getName().equals("parish") || m.getName().equals("restore")
                    || m.getName().equals("undo");
                if (!rare || random.nextInt(6) == 0) {
                    call(m, args(m));
                    left--;
                }
            }
        }
    }

    private long call(Method m, int... args) throws ReflectiveOperationException {
        Object[] given = new Object[args.length];
        for (int i = 0; i < args.length; i++) {
            given[i] = args[i];
        }
        long got = ((Number) m.invoke(x, given)).longValue();
        String what = m.getName() + Arrays.toString(args);
        check.due("run " + run + ": " + what, got, model.call(m.getName(), args));
        if (m.getName().equals("parish") || m.getName().equals("restore")) {
            paths = x.count(1);
            witnesses = x.count(2);
        }
        return got;
    }

    private long call(String name, int... args) throws ReflectiveOperationException {
        for (Method m : methods) {
            if (m.getName().equals(name)) {
                return call(m, args);
            }
        }
        throw new IllegalArgumentException(name);
    }

    private void tell(String text) throws ReflectiveOperationException {
        for (int i = 0; i < text.length(); i++) {
            call("feed", text.charAt(i));
        }
        call("parish");
        call("fault");
    }

    private String text() {
        StringBuilder s = new StringBuilder();
        int fields = 3 + random.nextInt(6);
        s.append('c').append(random.nextInt(fields)).append(',').append(20 + random.nextInt(random.nextBoolean() ? 71 : 6)).append(';');
        int n = 1 + random.nextInt(12);
        List<Integer> pairs = new ArrayList<>();
        for (int i = 0; i < 40 && pairs.size() < n; i++) {
            int a = random.nextInt(fields);
            int b = random.nextInt(fields);
            int pair = Math.min(a, b) * 8 + Math.max(a, b);
            if (a != b && !pairs.contains(pair)) {
                pairs.add(pair);
                s.append('p').append(a).append(',').append(b).append(',').append(1 + random.nextInt(random.nextBoolean() ? 9 : 3)).append(';');
            }
        }
        int who = random.nextInt(7);
        for (int i = 0; i < who; i++) {
            s.append("ncfsm".charAt(random.nextInt(5))).append(random.nextInt(i % 2 == 0 ? 61 : 30)).append(',').append(random.nextInt(fields)).append(';');
        }
        return s.length() > 140 ? text() : s.toString();
    }

    private String spoilt(String text) {
        StringBuilder s = new StringBuilder(text);
        int at = random.nextInt(s.length());
        switch (random.nextInt(4)) {
            case 0: s.deleteCharAt(at); break;
            case 1: s.setLength(at); break;
            case 2: s.setCharAt(at, "cpnfsmxyz0123456789,; A\u00ff".charAt(random.nextInt(24))); break;
            default: s.insert(at, "cpnfsmxyz0123456789,; A\u00ff".charAt(random.nextInt(24)));
        }
        return s.substring(0, Math.min(140, s.length()));
    }

    /** Rows that fit what is: what a witness swears to, what is a way. */
    private void row() throws ReflectiveOperationException {
        int row = random.nextInt(3);
        call("row", row, 1 + random.nextInt(2), 8);
        for (int t = 0; t < 4; t++) {
            int field = random.nextInt(8);
            call("set", row, 2 * t, field);
            long goes = call("goes", field, 1);
            long ways = call("stand", 0);
            long swears = call("witness", random.nextInt(6), 3);
            long item = random.nextInt(3) == 0 ? ways | Math.max(goes, 0) : swears < 0 ? 0 : random.nextBoolean() ? swears : swears | Math.max(goes, 0);
            call("set", row, 2 * t + 1, (int) item);
            call("from", row, 2 * t + 1);
        }
        for (int witness = 0; witness < 6; witness++) {
            call("who", witness, row, 2 * random.nextInt(4), 1 + random.nextInt(2));
        }
    }

    private int[] args(Method m) {
        int[] a = new int[m.getParameterCount()];
        for (int i = 0; i < a.length; i++) {
            a[i] = arg(m.getName(), i);
        }
        if (random.nextInt(60) == 0 && a.length > 0) {
            int[] odd = {-1, Integer.MIN_VALUE, Integer.MAX_VALUE, 8, 12, 41, 61, 256, 1000000};
            a[random.nextInt(a.length)] = odd[random.nextInt(odd.length)];
        }
        return a;
    }

    private int arg(String name, int i) {
        switch (name) {
            case "row": return i == 0 ? random.nextInt(4) : i == 1 ? random.nextInt(3) : random.nextInt(12);
            case "set": return i == 0 ? random.nextInt(4) : i == 1 ? random.nextInt(10) : random.nextInt();
            case "copy": return i == 0 || i == 2 ? random.nextInt(4) : random.nextInt(6);
            case "drop": return random.nextInt(5);
            case "feed": return random.nextInt(256);
            case "years": return 1 + random.nextInt(random.nextInt(4) == 0 ? 25 : 3);
            case "lock": return i == 0 ? random.nextInt(paths + 1) : random.nextInt(2);
            case "follow": return random.nextInt(witnesses + 1);
            case "witness": return i == 0 ? random.nextInt(witnesses + 1) : random.nextInt(5);
            case "path": return i == 0 ? random.nextInt(paths + 1) : random.nextInt(6);
            case "stand": return random.nextInt(5);
            case "ahead": return random.nextInt(62);
            case "lost": return random.nextInt(paths + 1);
            case "live": return i == 0 ? random.nextInt(1 << paths) & random.nextInt(1 << paths) : random.nextInt(2);
            case "from": return i == 0 ? random.nextInt(3) : random.nextInt(9);
            case "who": return i == 0 ? random.nextInt(witnesses + 1) : i == 1 ? random.nextInt(3) : i == 2 ? 2 * random.nextInt(4) : 1 + random.nextInt(4);
            case "locked": return i == 0 ? random.nextInt(8) : i == 1 ? random.nextInt(11) : random.nextInt(2);
            case "drawn": return i == 0 ? random.nextInt(61) : i == 1 ? 1 + random.nextInt(999999) : random.nextInt(2);
            case "kind": return random.nextInt(witnesses + 1);
            case "as": return i == 0 ? random.nextInt(witnesses + 1) : random.nextInt(6);
            case "ask": return i == 0 ? random.nextInt(witnesses + 1) : random.nextInt(2);
            case "trace": return random.nextInt(7);
            case "count": return random.nextInt(9);
            case "best": case "image": case "restore": return random.nextInt(2);
            default: return i == 0 ? random.nextInt(8) : random.nextInt(2);
        }
    }
}
