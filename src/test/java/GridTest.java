import java.lang.reflect.InvocationTargetException;
import java.lang.reflect.Method;
import java.lang.reflect.Modifier;
import java.util.Arrays;
import java.util.Comparator;

/**
 * Every call with every mixture of numbers at and beside the document's edges, in parishes of several states: the class
 * answers as the model does, and never throws.
 */
public final class GridTest {
    // An object is used for at most 512 calls; look() needs some of them.
    private static final int CALLS = 400;
    private static final int LOWEST = Integer.MIN_VALUE, HIGHEST = Integer.MAX_VALUE;
    private static final int[] ALL = {LOWEST, LOWEST + 1, -1000003, -257, -41, -2, -1, 0, 1, 2, 3, 4, 5, 6, 7, 8, 9, 10, 11, 12,
        13, 15, 16, 17, 23, 24, 25, 31, 32, 33, 39, 40, 41, 59, 60, 61, 63, 64, 127, 128, 139, 140, 141, 255, 256, 4095, 4096,
        32767, 32768, 65535, 65536, 999998, 999999, 1000000, 2147483645, HIGHEST - 1, HIGHEST};
    private static final int[] MANY = {LOWEST, -1, 0, 1, 2, 3, 5, 6, 7, 8, 10, 11, 12, 39, 40, 41, 60, 61, 999999, 1000000, HIGHEST};
    private static final int[] SOME = {LOWEST, -1, 0, 1, 4, 5, 6, 7, 8, 32, 33, 40, HIGHEST};
    private static final int[] FEW = {LOWEST, -1, 0, 1, 2, 7, 8, 39, 40, HIGHEST};

    private static final String[] TEXTS = {
        "",
        "c0,20;p0,1,1;",
        "c3,20;p0,1,1;p1,3,2;p7,3,9;p0,7,5;n20,1;c29,0;s0,7;",
        "c7,20;p0,1,1;p0,2,1;p1,3,1;p2,3,1;p3,4,1;p3,5,1;p4,6,1;p5,6,1;p6,7,1;p0,7,9;p1,7,8;p2,7,8;s0,0;m0,0;c12,3;f0,6;n20,7;m3,1;"};

    private final Check check = new Check();
    private CoffinWays x;
    private Model model;
    private String text;
    private int years;
    private int calls;

    private GridTest() {
    }

    public static void main(String[] args) throws ReflectiveOperationException {
        GridTest test = new GridTest();
        Method[] methods = CoffinWays.class.getDeclaredMethods();
        Arrays.sort(methods, Comparator.comparing(Method::getName));
        for (String text : TEXTS) {
            for (int years : new int[] {0, 2, 999}) {
                for (Method m : methods) {
                    if (Modifier.isPublic(m.getModifiers())) {
                        test.text = text;
                        test.years = years;
                        test.make();
                        test.each(m, new int[m.getParameterCount()], 0);
                        test.look();
                    }
                }
            }
        }
        test.check.end();
    }

    private void make() throws ReflectiveOperationException {
        calls = 0;
        x = new CoffinWays();
        model = new Model();
        for (int i = 0; i < text.length(); i++) {
            call("feed", text.charAt(i));
        }
        call("parish");
        for (int left = years; left > 0; left -= 24) {
            call("years", Math.min(left, 24));
        }
        for (int field = 0; field < 8; field += 3) {
            call("bury", field);
        }
        call("lock", 1, 1);
        for (int row = 0; row < 3; row++) {
            call("row", row, row, 40);
            for (int i = 0; i < 12; i++) {
                call("set", row, i, i % 9);
            }
        }
        call("row", 7, 2, 2);
        call("row", 5, 1, 0);
        call("image", 1);
    }

    /** What the calls have left behind. */
    private void look() throws ReflectiveOperationException {
        for (int k = 0; k < 8; k++) {
            call("count", k);
            call("stand", k);
            call("witness", k, 3);
            call("trace", k);
        }
        for (int k = 0; k < 26; k++) {
            call("undo");
            call("stand", k % 4);
        }
        call("fault");
        call("status");
    }

    private static int[] edges(int parameters) {
        return parameters <= 2 ? ALL : parameters == 3 ? MANY : parameters == 4 ? SOME : FEW;
    }

    private void each(Method m, int[] args, int at) throws ReflectiveOperationException {
        if (at == args.length) {
            if (calls > CALLS) {
                look();
                make();
            }
            call(m, args);
            return;
        }
        for (int value : edges(args.length)) {
            args[at] = value;
            each(m, args, at + 1);
        }
    }

    private void call(Method m, int... args) throws ReflectiveOperationException {
        calls++;
        Object[] given = new Object[args.length];
        for (int i = 0; i < args.length; i++) {
            given[i] = args[i];
        }
        long want = model.call(m.getName(), args);
        try {
            long got = ((Number) m.invoke(x, given)).longValue();
            if (got != want) {
                check.due(text + " in " + years + ": " + m.getName() + Arrays.toString(args), got, want);
            } else {
                check.due("", 0, 0);
            }
        } catch (InvocationTargetException thrown) {
            check.due(text + " in " + years + ": " + m.getName() + Arrays.toString(args) + " threw " + thrown.getCause(), 0, want);
        }
    }

    private void call(String name, int... args) throws ReflectiveOperationException {
        Class<?>[] types = new Class<?>[args.length];
        Arrays.fill(types, int.class);
        call(CoffinWays.class.getDeclaredMethod(name, types), args);
    }
}
