import java.math.BigInteger;
import java.util.ArrayDeque;
import java.util.ArrayList;
import java.util.Arrays;
import java.util.Deque;
import java.util.HashMap;
import java.util.List;
import java.util.Map;
import java.util.regex.Matcher;
import java.util.regex.Pattern;

/**
 * The document once more, told as plainly as can be: every route, every set of gates, every set of witnesses is tried.
 * It shares nothing with the class, so that both go wrong together only where both misread the document.
 */
final class Model {
    private static final int NONE = -1000000, BAD = -1000001, STATE = -1000002, FULL = -1000003;

    /** A witness; the kind stays a letter. */
    private static final class Person {
        char sort;
        int age;
        int home;
        int saw;

        Person copy() {
            Person p = new Person();
            p.sort = sort;
            p.age = age;
            p.home = home;
            p.saw = saw;
            return p;
        }
    }

    private static final class World {
        int church;
        int lives;
        int year;
        int shut;
        List<int[]> paths = new ArrayList<>();
        List<Person> people = new ArrayList<>();

        World copy() {
            World w = new World();
            w.church = church;
            w.lives = lives;
            w.year = year;
            w.shut = shut;
            w.paths.addAll(paths);
            for (Person p : people) {
                w.people.add(p.copy());
            }
            return w;
        }

        boolean alive(Person p) {
            return p.sort == 'c' ? p.age <= lives + 9 : p.age <= lives;
        }

        int swears(Person p) {
            return alive(p) ? p.saw : 0;
        }

        int ways() {
            int all = 0;
            for (Person p : people) {
                all |= swears(p);
            }
            return all;
        }

        int living() {
            int bits = 0;
            for (int i = 0; i < people.size(); i++) {
                bits |= alive(people.get(i)) ? 1 << i : 0;
            }
            return bits;
        }

        boolean touches(int path, int field) {
            return paths.get(path)[0] == field || paths.get(path)[1] == field;
        }

        /** All rows of unlike fields from here to church; of the shortest the first row, as fields. */
        List<Integer> route(int field, int closed) {
            List<List<Integer>> all = new ArrayList<>();
            walk(new ArrayList<>(List.of(field)), closed, all);
            List<Integer> best = null;
            for (List<Integer> one : all) {
                if (best == null || length(one) < length(best) || length(one) == length(best) && ahead(one, best)) {
                    best = one;
                }
            }
            return best;
        }

        private static boolean ahead(List<Integer> a, List<Integer> b) {
            for (int i = 0; i < Math.min(a.size(), b.size()); i++) {
                if (!a.get(i).equals(b.get(i))) {
                    return a.get(i) < b.get(i);
                }
            }
            return a.size() < b.size();
        }

        private void walk(List<Integer> row, int closed, List<List<Integer>> all) {
            int at = row.get(row.size() - 1);
            if (at == church) {
                all.add(new ArrayList<>(row));
                return;
            }
            for (int to = 0; to < 8; to++) {
                int path = between(at, to);
                if (path >= 0 && (closed >> path & 1) == 0 && !row.contains(to)) {
                    row.add(to);
                    walk(row, closed, all);
                    row.remove(row.size() - 1);
                }
            }
        }

        private int between(int a, int b) {
            for (int i = 0; i < paths.size(); i++) {
                if (a != b && touches(i, a) && touches(i, b)) {
                    return i;
                }
            }
            return -1;
        }

        int length(List<Integer> row) {
            int sum = 0;
            for (int i = 1; i < row.size(); i++) {
                sum += paths.get(between(row.get(i - 1), row.get(i)))[2];
            }
            return sum;
        }

        List<Integer> pathsOf(List<Integer> row) {
            List<Integer> used = new ArrayList<>();
            for (int i = 1; i < row.size(); i++) {
                used.add(between(row.get(i - 1), row.get(i)));
            }
            return used;
        }

        int bits(List<Integer> used) {
            int bits = 0;
            for (int p : used) {
                bits |= 1 << p;
            }
            return bits;
        }

        boolean through(int field, int closed) {
            boolean[] seen = new boolean[8];
            Deque<Integer> next = new ArrayDeque<>(List.of(field));
            while (!next.isEmpty()) {
                int at = next.pop();
                if (seen[at]) {
                    continue;
                }
                seen[at] = true;
                for (int i = 0; i < paths.size(); i++) {
                    if ((closed >> i & 1) == 0 && touches(i, at)) {
                        next.push(paths.get(i)[0] + paths.get(i)[1] - at);
                    }
                }
            }
            return seen[church];
        }

        boolean burial(int field) {
            return field != church && through(field, shut);
        }

        int sees(Person p, List<Integer> used) {
            if (!alive(p)) {
                return 0;
            }
            int near = 0;
            for (int path : used) {
                near |= touches(path, p.home) ? 1 << path : 0;
            }
            if (p.sort == 'n') {
                return near;
            }
            if (p.sort == 'c') {
                return near != 0 || p.home == church ? bits(used) : 0;
            }
            if (p.sort == 'f') {
                for (int i = 0; i < paths.size(); i++) {
                    if (touches(i, p.home) && (shut >> i & 1) == 1) {
                        return 0;
                    }
                }
                return near;
            }
            return p.sort == 's' ? bits(used) : 1 << used.get(0);
        }

        void bury(int field) {
            List<Integer> used = pathsOf(route(field, shut));
            for (Person p : people) {
                p.saw |= sees(p, used);
            }
        }

        void pass() {
            for (Person p : people) {
                if (alive(p)) {
                    p.age++;
                }
                if (p.sort == 's' && year % 3 == 2) {
                    p.saw = 0;
                }
                if (p.sort == 'm' && p.saw != 0) {
                    p.saw -= Integer.lowestOneBit(p.saw);
                }
            }
            year++;
        }
    }

    private World now;
    private final Deque<World> before = new ArrayDeque<>();
    private final World[] images = new World[2];
    private final Map<Integer, int[]> rows = new HashMap<>();
    private final int[] lanes = new int[8];
    private StringBuilder tape = new StringBuilder();
    private int fault;
    private int status;
    private List<Integer> trace = new ArrayList<>();

    private int found(int number) {
        status = number;
        return -1000010 - number;
    }

    private int fine(int answer) {
        status = 0;
        return answer;
    }

    private static boolean in(int v, int low, int high) {
        return v >= low && v <= high;
    }

    private void act() {
        before.push(now.copy());
        if (before.size() > 24) {
            before.removeLast();
        }
    }

    /** A call by its name. */
    long call(String name, int[] a) {
        switch (name) {
            case "row": return row(a[0], a[1], a[2]);
            case "set": return set(a[0], a[1], a[2]);
            case "copy": return copy(a);
            case "drop": return drop(a[0]);
            case "feed": return feed(a[0]);
            case "parish": return parish();
            case "fault": return fault;
            case "undo": return undo();
            case "lock": return lock(a[0], a[1]);
            case "follow": return follow(a[0]);
            case "witness": return witness(a[0], a[1]);
            case "path": return path(a[0], a[1]);
            case "lost": return lost(a[0]);
            case "who": return who(a[0], a[1], a[2], a[3]);
            case "image": return image(a[0]);
            case "restore": return restore(a[0]);
            case "kind": return person(a[0]) == null ? BAD : kindOf(person(a[0]).sort);
            case "as": return as(a[0], a[1]);
            case "ask": return ask(a[0], a[1]);
            case "trace": return in(a[0], 0, trace.size() - 1) ? trace.get(a[0]) : NONE;
            case "count": return count(a[0]);
            case "status": return status;
            default: return now == null ? STATE : standing(name, a);
        }
    }

    /** The calls that refuse first if there is no parish. */
    private long standing(String name, int[] a) {
        switch (name) {
            case "bury": return bury(a[0]);
            case "years": return years(a[0]);
            case "stand": return stand(a[0]);
            case "ahead": return ahead(a[0]);
            case "goes": return goes(a[0], a[1]);
            case "stop": return stop(a[0], a[1]);
            case "must": return must(a[0]);
            case "live": return live(a[0], a[1]);
            case "makes": return in(a[0], 0, 7) ? makes(a[0]) : BAD;
            case "best": return best(a[0]);
            case "from": return from(a[0], a[1]);
            case "far": return !in(a[0], 0, 7) ? BAD : now.through(a[0], 0) ? now.length(now.route(a[0], 0)) : NONE;
            case "pairs": return pairs();
            case "locked": return locked(a[0], a[1], a[2]);
            case "drawn": return drawn(a[0], a[1], a[2]);
            default: throw new IllegalArgumentException(name);
        }
    }

    private int row(int row, int lane, int n) {
        if (!in(row, 0, 7) || !in(lane, 0, 2) || n > 40) {
            return BAD;
        }
        if (n < 0) {
            return found(4);
        }
        rows.put(row, new int[n]);
        lanes[row] = lane;
        return fine(n);
    }

    private int set(int row, int i, int v) {
        if (!in(row, 0, 7)) {
            return BAD;
        }
        int[] items = rows.get(row);
        if (items == null) {
            return found(1);
        }
        if (!in(i, 0, items.length - 1)) {
            return found(2);
        }
        int spare = lanes[row] == 0 ? 24 : lanes[row] == 1 ? 16 : 0;
        items[i] = v << spare >> spare;
        return fine(items[i]);
    }

    private int copy(int[] a) {
        if (!in(a[0], 0, 7) || !in(a[2], 0, 7)) {
            return BAD;
        }
        int[] from = rows.get(a[0]);
        int[] to = rows.get(a[2]);
        if (from == null || to == null) {
            return found(1);
        }
        if (lanes[a[0]] != lanes[a[2]]) {
            return found(5);
        }
        long i = a[1];
        long j = a[3];
        long n = a[4];
        if (i < 0 || j < 0 || n < 0 || i + n > from.length || j + n > to.length) {
            return found(2);
        }
        int[] taken = Arrays.copyOfRange(from, a[1], a[1] + a[4]);
        for (int k = 0; k < n; k++) {
            to[a[3] + k] = taken[k];
        }
        return fine(a[4]);
    }

    private int drop(int row) {
        if (!in(row, 0, 7)) {
            return BAD;
        }
        int[] items = rows.remove(row);
        return items == null ? found(1) : fine(items.length);
    }

    private int feed(int letter) {
        if (!in(letter, 0, 255)) {
            return BAD;
        }
        if (tape.length() == 140) {
            return FULL;
        }
        tape.append((char) letter);
        return tape.length();
    }

    /** What may stand next is told as a text of marks: it grows as paths and witnesses come. */
    private int parish() {
        String text = tape.toString();
        tape = new StringBuilder();
        World w = new World();
        Matcher m = Pattern.compile("[0-9]+|[a-z,;]|(?s:.)").matcher(text);
        List<Integer> told = new ArrayList<>();
        String due = "cC,L;";
        char part = 'c';
        while (true) {
            if (due.isEmpty()) {
                finish(w, part, told);
                told.clear();
            }
            boolean some = m.find();
            String token = some ? m.group() : "";
            int place = some ? m.start() : text.length();
            if (due.isEmpty()) {
                if (!some && !w.paths.isEmpty()) {
                    break;
                }
                boolean path = token.equals("p") && w.people.isEmpty();
                boolean witness = !w.paths.isEmpty() && token.length() == 1 && "ncfsm".contains(token);
                if (!path && !witness) {
                    return faulty(1, place);
                }
                if (path && w.paths.size() == 12 || witness && w.people.size() == 6) {
                    return faulty(3, place);
                }
                part = token.charAt(0) == 'c' ? 'k' : token.charAt(0);
                due = path ? "F,T,G;" : "A,F;";
                continue;
            }
            int found = fits(due.charAt(0), token, told, w);
            if (found != 0) {
                return faulty(found, place);
            }
            if (token.length() > 0 && Character.isDigit(token.charAt(0))) {
                told.add(Integer.parseInt(token));
            }
            due = due.substring(1);
        }
        now = w;
        before.clear();
        return w.paths.size();
    }

    private int faulty(int number, int place) {
        fault = number;
        return -1000100 - place;
    }

    private static int fits(char mark, String token, List<Integer> told, World w) {
        if (mark == 'c' || mark == ',' || mark == ';') {
            return token.equals(String.valueOf(mark)) ? 0 : 1;
        }
        if (!token.matches("[0-9]{1,2}")) {
            return 1;
        }
        int v = Integer.parseInt(token);
        boolean good;
        switch (mark) {
            case 'L': good = in(v, 20, 90); break;
            case 'G': good = in(v, 1, 9); break;
            case 'A': good = in(v, 0, 60); break;
            case 'T': good = in(v, 0, 7) && v != told.get(0) && w.between(v, told.get(0)) < 0; break;
            default: good = in(v, 0, 7);
        }
        return good ? 0 : 2;
    }

    private static void finish(World w, char part, List<Integer> told) {
        if (part == 'c') {
            w.church = told.get(0);
            w.lives = told.get(1);
        } else if (part == 'p') {
            w.paths.add(new int[] {told.get(0), told.get(1), told.get(2)});
        } else {
            Person p = new Person();
            p.sort = part == 'k' ? 'c' : part;
            p.age = told.get(0);
            p.home = told.get(1);
            w.people.add(p);
        }
    }

    private int undo() {
        if (before.isEmpty()) {
            return STATE;
        }
        now = before.pop();
        return before.size();
    }

    private int bury(int field) {
        if (!in(field, 0, 7)) {
            return BAD;
        }
        if (!now.burial(field)) {
            return STATE;
        }
        act();
        now.bury(field);
        return now.ways();
    }

    private int years(int n) {
        if (!in(n, 1, 24)) {
            return BAD;
        }
        if (now.year + n > 999) {
            return FULL;
        }
        for (int i = 0; i < n; i++) {
            act();
            now.pass();
        }
        return now.living();
    }

    private boolean isPath(int path) {
        return now != null && in(path, 0, now.paths.size() - 1);
    }

    private Person person(int i) {
        return now != null && in(i, 0, now.people.size() - 1) ? now.people.get(i) : null;
    }

    private int lock(int path, int on) {
        if (!isPath(path) || !in(on, 0, 1)) {
            return BAD;
        }
        if ((now.shut >> path & 1) == on) {
            return STATE;
        }
        act();
        now.shut += on == 1 ? 1 << path : -(1 << path);
        return now.shut;
    }

    private int follow(int i) {
        if (person(i) == null) {
            return BAD;
        }
        if (now.alive(person(i))) {
            return STATE;
        }
        act();
        person(i).age = 0;
        person(i).saw = 0;
        return now.living();
    }

    private int witness(int i, int what) {
        Person p = person(i);
        if (p == null || !in(what, 0, 3)) {
            return BAD;
        }
        return new int[] {p.age, p.home, now.alive(p) ? 1 : 0, now.swears(p)}[what];
    }

    private int path(int i, int what) {
        if (!isPath(i) || !in(what, 0, 4)) {
            return BAD;
        }
        int who = 0;
        for (int k = 0; k < now.people.size(); k++) {
            who += (now.swears(now.people.get(k)) >> i & 1) << k;
        }
        int[] path = now.paths.get(i);
        return new int[] {path[0], path[1], path[2], now.shut >> i & 1, who}[what];
    }

    private int stand(int what) {
        return in(what, 0, 3) ? new int[] {now.ways(), now.shut, now.living(), now.church}[what] : BAD;
    }

    private int ahead(int n) {
        if (!in(n, 0, 60)) {
            return BAD;
        }
        World then = now.copy();
        for (int i = 0; i < n; i++) {
            then.pass();
        }
        return then.ways();
    }

    private int lost(int path) {
        if (!isPath(path)) {
            return BAD;
        }
        for (int n = 0; n <= 60; n++) {
            if ((ahead(n) >> path & 1) == 0) {
                return n;
            }
        }
        return NONE;
    }

    private int goes(int field, int what) {
        if (!in(field, 0, 7) || !in(what, 0, 1)) {
            return BAD;
        }
        List<Integer> row = now.route(field, now.shut);
        return row == null ? NONE : what == 0 ? now.length(row) : now.bits(now.pathsOf(row));
    }

    private int stop(int field, int what) {
        if (!in(field, 0, 7) || !in(what, 0, 1)) {
            return BAD;
        }
        if (field == now.church) {
            return NONE;
        }
        for (int n = 0; n <= 12; n++) {
            for (int some = 0; some < 1 << now.paths.size(); some++) {
                if (Integer.bitCount(some) == n && (some & now.shut) == 0 && !now.through(field, now.shut | some)) {
                    return what == 0 ? n : some;
                }
            }
        }
        throw new IllegalStateException("not to be stopped");
    }

    private int must(int field) {
        if (!in(field, 0, 7)) {
            return BAD;
        }
        int gates = 0;
        for (int i = 0; i < now.paths.size(); i++) {
            boolean open = (now.shut >> i & 1) == 0;
            if (open && now.through(field, now.shut) && !now.through(field, now.shut | 1 << i)) {
                gates |= 1 << i;
            }
        }
        return gates;
    }

    private int live(int paths, int what) {
        if (!in(paths, 0, (1 << now.paths.size()) - 1) || !in(what, 0, 1)) {
            return BAD;
        }
        for (int n = 0; n <= 6; n++) {
            for (int some = 0; some < 1 << now.people.size(); some++) {
                int all = 0;
                for (int i = 0; i < now.people.size(); i++) {
                    all |= (some >> i & 1) == 1 ? now.swears(now.people.get(i)) : 0;
                }
                if (Integer.bitCount(some) == n && (all & paths) == paths) {
                    return what == 0 ? n : some;
                }
            }
        }
        return NONE;
    }

    private int makes(int field) {
        if (!now.burial(field)) {
            return NONE;
        }
        World then = now.copy();
        then.bury(field);
        return Integer.bitCount(then.ways()) - Integer.bitCount(now.ways());
    }

    private int best(int what) {
        if (!in(what, 0, 1)) {
            return BAD;
        }
        int best = -1;
        for (int field = 7; field >= 0; field--) {
            if (now.burial(field) && (best < 0 || makes(field) >= makes(best))) {
                best = field;
            }
        }
        return best < 0 ? NONE : what == 0 ? best : makes(best);
    }

    private int from(int row, int i) {
        if (!in(row, 0, 7)) {
            return BAD;
        }
        int[] items = rows.get(row);
        if (items == null) {
            return found(1);
        }
        if (!in(i, 0, items.length - 1)) {
            return found(2);
        }
        int fields = 0;
        for (int field = 0; field < 8; field++) {
            if (now.burial(field)) {
                World then = now.copy();
                then.bury(field);
                fields |= then.ways() == items[i] ? 1 << field : 0;
            }
        }
        return fine(fields);
    }

    private int who(int witness, int row, int i, int n) {
        if (person(witness) == null || !in(row, 0, 7) || !in(n, 1, 4)) {
            return BAD;
        }
        int[] items = rows.get(row);
        if (items == null) {
            return found(1);
        }
        if (i < 0 || (long) i + 2 * n > items.length) {
            return found(2);
        }
        for (int t = 0; t < n; t++) {
            if (!in(items[i + 2 * t], 0, 7)) {
                return BAD;
            }
        }
        int kinds = 0;
        for (int kind = 1; kind <= 5; kind++) {
            World then = now.copy();
            Person p = then.people.get(witness);
            p.sort = "?ncfsm".charAt(kind);
            boolean so = true;
            for (int t = 0; t < n; t++) {
                if (then.burial(items[i + 2 * t])) {
                    then.bury(items[i + 2 * t]);
                }
                so &= then.swears(p) == items[i + 2 * t + 1];
            }
            kinds |= so ? 1 << kind : 0;
        }
        return fine(kinds);
    }

    private int pairs() {
        int n = 0;
        for (Person p : now.people) {
            for (Person q : now.people) {
                n += p != q && now.swears(p) != 0 && now.swears(p) == now.swears(q) ? 1 : 0;
            }
        }
        return n / 2;
    }

    private long locked(int field, int p, int what) {
        if (!in(field, 0, 7) || !in(p, 0, 10) || !in(what, 0, 1)) {
            return BAD;
        }
        BigInteger above = BigInteger.ZERO;
        int gates = now.paths.size() - Integer.bitCount(now.shut);
        for (int some = 0; some < 1 << now.paths.size(); some++) {
            if ((some & now.shut) == 0 && now.through(field, now.shut | some)) {
                int shut = Integer.bitCount(some);
                above = above.add(BigInteger.valueOf(p).pow(shut).multiply(BigInteger.valueOf(10 - p).pow(gates - shut)));
            }
        }
        BigInteger below = BigInteger.TEN.pow(gates);
        BigInteger common = above.gcd(below);
        return (what == 0 ? above : below).divide(common).longValueExact();
    }

    private int drawn(int n, int seed, int what) {
        if (!in(n, 0, 60) || !in(seed, 1, 999999) || !in(what, 0, 1)) {
            return BAD;
        }
        World then = now.copy();
        BigInteger x = BigInteger.valueOf(seed);
        int burials = 0;
        for (int i = 0; i < n; i++) {
            x = x.multiply(BigInteger.valueOf(16807)).mod(BigInteger.valueOf(2147483647));
            int field = x.mod(BigInteger.valueOf(8)).intValue();
            if (then.burial(field)) {
                then.bury(field);
                burials++;
            }
            then.pass();
        }
        return what == 0 ? then.ways() : burials;
    }

    private int image(int k) {
        if (!in(k, 0, 1)) {
            return BAD;
        }
        if (now == null) {
            return STATE;
        }
        images[k] = now.copy();
        return 1;
    }

    private int restore(int k) {
        if (!in(k, 0, 1)) {
            return BAD;
        }
        if (images[k] == null) {
            return STATE;
        }
        now = images[k].copy();
        before.clear();
        return 1;
    }

    private static int kindOf(char sort) {
        return "?ncfsm".indexOf(sort);
    }

    private int as(int i, int kind) {
        if (person(i) == null || !in(kind, 0, 5)) {
            return BAD;
        }
        String[] is = {"ncfsm", "ncf", "c", "f", "sm", "m"};
        return is[kind].indexOf(person(i).sort) >= 0 ? fine(i) : found(3);
    }

    private int ask(int i, int what) {
        Person p = person(i);
        if (p == null || !in(what, 0, 1)) {
            return BAD;
        }
        trace = new ArrayList<>();
        int answer = what == 0 ? body(i, first("ncfsm", p.sort, 11, 12, 11, 13, 14)) : body(i, first("ncfsm", p.sort, 21, 24, 22, 23, 23));
        trace = trace.subList(0, Math.min(16, trace.size()));
        return answer;
    }

    private static int first(String sorts, char sort, int... bodies) {
        return bodies[sorts.indexOf(sort)];
    }

    private int body(int i, int number) {
        Person p = person(i);
        trace.add(number);
        switch (number) {
            case 10: return Integer.bitCount(now.swears(p));
            case 11: {
                int lent = body(i, 10);
                return lent + body(i, first("ncf", p.sort, 21, 24, 22));
            }
            case 12: return 0 - body(i, 11);
            case 13: return body(i, 10) - 100;
            case 14: return 2 * body(i, 13);
            case 20: return i;
            case 21: return body(i, 20) + p.age;
            case 22: return body(i, 21) - 1000;
            case 23: {
                int lent = body(i, 20);
                return lent - body(i, first("sm", p.sort, 13, 14));
            }
            case 24: return 2 * body(i, 21);
            default: throw new IllegalArgumentException();
        }
    }

    private int count(int what) {
        if (!in(what, 0, 7)) {
            return BAD;
        }
        if (what == 0) {
            return rows.size();
        }
        if (what == 6 || what == 7) {
            return what == 6 ? before.size() : tape.length();
        }
        if (now == null) {
            return 0;
        }
        return new int[] {0, now.paths.size(), now.people.size(), now.year, Integer.bitCount(now.ways()), now.lives}[what];
    }
}
