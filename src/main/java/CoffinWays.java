/**
 * Where a corpse has once been carried to church there is a way, as long as
 * somebody who saw it still swears. The document's promises are told by number
 * in its "Promise 1" to "Promise 38".
 */
public final class CoffinWays {
    public static final int NONE = -1000000, BAD = -1000001, STATE = -1000002, FULL = -1000003;

    private static final int FINDINGS = -1000010, FAULTS = -1000100;
    private static final int NULL = 1, PLACE = 2, KIND = 3, SIZE = 4, STORE = 5;
    private static final int ROWS = 8, ITEMS = 40, BYTES = 0, SHORTS = 1, INTS = 2;
    private static final int TAPE = 140;
    private static final int FIELDS = 8, PATHS = 12, WITNESSES = 6, IMAGES = 2;
    private static final int WITNESS = 0, NEIGHBOUR = 1, CHILD = 2, FARMER = 3, STRANGER = 4, SMITH = 5, KINDS = 6;
    private static final int ACTS = 24, LAST_YEAR = 999, FORETOLD = 60, TRACE = 16;
    private static final int CASES = 10, TURNS = 4, LAST_SEED = 999999;

    private final Rows rows;
    private final Tape tape;
    private final Witness[] kinds;
    private final Parish now;
    // Reading, and what is foretold, go on here, so that what is refused leaves the parish alone.
    private final Parish draft;
    private final Parish[] images;
    // A ring of what the parish was ahead of each act.
    private final int[][] acts;
    private int actsKept;
    private int nextAct;
    private final Coffin coffin;
    private final Asked asked;
    private final int[] sawAs;
    private int finding;

    public CoffinWays() {
        rows = new Rows();
        tape = new Tape();
        kinds = new Witness[KINDS];
        kinds[WITNESS] = new Witness();
        kinds[NEIGHBOUR] = new Neighbour();
        kinds[CHILD] = new Child();
        kinds[FARMER] = new Farmer();
        kinds[STRANGER] = new Stranger();
        kinds[SMITH] = new Smith();
        now = new Parish(kinds);
        draft = new Parish(kinds);
        images = new Parish[IMAGES];
        for (int k = 0; k < IMAGES; k++) {
            images[k] = new Parish(kinds);
        }
        acts = new int[ACTS][2 + 2 * WITNESSES];
        coffin = new Coffin();
        asked = new Asked();
        sawAs = new int[KINDS];
    }

    // ---- rows

    public int row(int row, int lane, int n) {
        if (!isRow(row) || lane < BYTES || lane > INTS || n > ITEMS) {
            return BAD;
        }
        if (n < 0) {
            return found(SIZE);
        }
        rows.lay(row, lane, n);
        return unfound(n);
    }

    public int set(int row, int i, int v) {
        if (!isRow(row)) {
            return BAD;
        }
        int amiss = rows.amiss(row, i, 1);
        if (amiss != 0) {
            return found(amiss);
        }
        return unfound(rows.put(row, i, v));
    }

    public int copy(int a, int i, int b, int j, int n) {
        if (!isRow(a) || !isRow(b)) {
            return BAD;
        }
        if (rows.isMissing(a) || rows.isMissing(b)) {
            return found(NULL);
        }
        if (rows.lanes[a] != rows.lanes[b]) {
            return found(STORE);
        }
        if (!rows.has(a, i, n) || !rows.has(b, j, n)) {
            return found(PLACE);
        }
        System.arraycopy(rows.items[a], i, rows.items[b], j, n);
        return unfound(n);
    }

    public int drop(int row) {
        if (!isRow(row)) {
            return BAD;
        }
        if (rows.isMissing(row)) {
            return found(NULL);
        }
        int had = rows.sizes[row];
        rows.sizes[row] = Rows.MISSING;
        return unfound(had);
    }

    // ---- what is told

    public int feed(int letter) {
        if (letter < 0 || letter > 255) {
            return BAD;
        }
        if (tape.size >= TAPE) {
            return FULL;
        }
        tape.append(letter);
        return tape.size;
    }

    public int parish() {
        boolean read = tape.read(draft);
        tape.size = 0;
        if (!read) {
            return FAULTS - tape.place;
        }
        now.become(draft);
        forgetActs();
        return now.paths;
    }

    public int fault() {
        return tape.fault;
    }

    public int undo() {
        if (actsKept == 0) {
            return STATE;
        }
        nextAct = (nextAct + ACTS - 1) % ACTS;
        actsKept--;
        now.load(acts[nextAct]);
        return actsKept;
    }

    // ---- what is done

    public int bury(int field) {
        if (!now.there) {
            return STATE;
        }
        if (!isField(field)) {
            return BAD;
        }
        if (!coffin.isBurial(now, field)) {
            return STATE;
        }
        keepAct();
        now.see(coffin);
        return now.ways();
    }

    public int years(int n) {
        if (!now.there) {
            return STATE;
        }
        if (n < 1 || n > ACTS) {
            return BAD;
        }
        if (now.year + n > LAST_YEAR) {
            return FULL;
        }
        for (int k = 0; k < n; k++) {
            keepAct();
            now.pass();
        }
        return now.living();
    }

    public int lock(int path, int on) {
        if (!now.hasPath(path) || !isOneOfTwo(on)) {
            return BAD;
        }
        if (bitOf(now.gates, path) == on) {
            return STATE;
        }
        keepAct();
        now.gates ^= 1 << path;
        return now.gates;
    }

    public int follow(int witness) {
        if (!now.hasWitness(witness)) {
            return BAD;
        }
        if (now.isAlive(witness)) {
            return STATE;
        }
        keepAct();
        now.ages[witness] = 0;
        now.saw[witness] = 0;
        return now.living();
    }

    public int witness(int witness, int what) {
        if (!now.hasWitness(witness)) {
            return BAD;
        }
        switch (what) {
            case 0: return now.ages[witness];
            case 1: return now.homes[witness];
            case 2: return now.isAlive(witness) ? 1 : 0;
            case 3: return now.swears(witness);
            default: return BAD;
        }
    }

    public int path(int path, int what) {
        if (!now.hasPath(path)) {
            return BAD;
        }
        switch (what) {
            case 0: return now.starts[path];
            case 1: return now.ends[path];
            case 2: return now.longs[path];
            case 3: return bitOf(now.gates, path);
            case 4: return now.swearing(path);
            default: return BAD;
        }
    }

    public int stand(int what) {
        if (!now.there) {
            return STATE;
        }
        switch (what) {
            case 0: return now.ways();
            case 1: return now.gates;
            case 2: return now.living();
            case 3: return now.church;
            default: return BAD;
        }
    }

    // ---- foretold

    public int ahead(int n) {
        if (!now.there) {
            return STATE;
        }
        if (n < 0 || n > FORETOLD) {
            return BAD;
        }
        draft.become(now);
        for (int k = 0; k < n; k++) {
            draft.pass();
        }
        return draft.ways();
    }

    public int lost(int path) {
        if (!now.hasPath(path)) {
            return BAD;
        }
        draft.become(now);
        for (int n = 0; n <= FORETOLD; n++) {
            if (bitOf(draft.ways(), path) == 0) {
                return n;
            }
            draft.pass();
        }
        return NONE;
    }

    public int goes(int field, int what) {
        if (!now.there) {
            return STATE;
        }
        if (!isField(field) || !isOneOfTwo(what)) {
            return BAD;
        }
        if (!coffin.carry(now, now.open(), field)) {
            return NONE;
        }
        return what == 0 ? coffin.length : coffin.route;
    }

    public int stop(int field, int what) {
        if (!now.there) {
            return STATE;
        }
        if (!isField(field) || !isOneOfTwo(what)) {
            return BAD;
        }
        if (field == now.church) {
            return NONE;
        }
        int gates = coffin.fewestGates(now, now.open(), field);
        return what == 0 ? Integer.bitCount(gates) : gates;
    }

    public int must(int field) {
        if (!now.there) {
            return STATE;
        }
        if (!isField(field)) {
            return BAD;
        }
        int open = now.open();
        if (!coffin.carry(now, open, field)) {
            return 0;
        }
        // A gate beside the route stops nobody: the route itself stays open.
        int route = coffin.route;
        int gates = 0;
        for (int i = 0; i < now.paths; i++) {
            if (bitOf(route, i) == 1 && !coffin.carry(now, open & ~(1 << i), field)) {
                gates |= 1 << i;
            }
        }
        return gates;
    }

    public int live(int paths, int what) {
        if (!now.there) {
            return STATE;
        }
        if ((paths & ~now.allPaths()) != 0 || !isOneOfTwo(what)) {
            return BAD;
        }
        int fewest = NONE;
        for (int some = 0; some < 1 << now.witnesses; some++) {
            boolean enough = (paths & ~now.sworn(some)) == 0;
            if (enough && (fewest == NONE || Integer.bitCount(some) < Integer.bitCount(fewest))) {
                fewest = some;
            }
        }
        return fewest == NONE || what == 1 ? fewest : Integer.bitCount(fewest);
    }

    public int makes(int field) {
        if (!now.there) {
            return STATE;
        }
        return isField(field) ? newWays(field) : BAD;
    }

    public int best(int what) {
        if (!now.there) {
            return STATE;
        }
        if (!isOneOfTwo(what)) {
            return BAD;
        }
        int first = NONE;
        int most = NONE;
        for (int field = 0; field < FIELDS; field++) {
            int made = newWays(field);
            if (made > most) {
                first = field;
                most = made;
            }
        }
        return what == 0 ? first : most;
    }

    public int from(int row, int i) {
        if (!now.there) {
            return STATE;
        }
        if (!isRow(row)) {
            return BAD;
        }
        int amiss = rows.amiss(row, i, 1);
        if (amiss != 0) {
            return found(amiss);
        }
        int told = rows.items[row][i];
        int fields = 0;
        for (int field = 0; field < FIELDS; field++) {
            if (coffin.isBurial(now, field) && now.waysBehind(coffin) == told) {
                fields |= 1 << field;
            }
        }
        return unfound(fields);
    }

    public int who(int witness, int row, int i, int n) {
        if (!now.hasWitness(witness) || !isRow(row) || n < 1 || n > TURNS) {
            return BAD;
        }
        int amiss = rows.amiss(row, i, 2 * n);
        if (amiss != 0) {
            return found(amiss);
        }
        for (int turn = 0; turn < n; turn++) {
            if (!isField(rows.items[row][i + 2 * turn])) {
                return BAD;
            }
        }
        return unfound(fittingKinds(witness, rows.items[row], i, n));
    }

    public int far(int field) {
        if (!now.there) {
            return STATE;
        }
        if (!isField(field)) {
            return BAD;
        }
        return coffin.carry(now, now.allPaths(), field) ? coffin.length : NONE;
    }

    public int pairs() {
        if (!now.there) {
            return STATE;
        }
        int alike = 0;
        for (int i = 0; i < now.witnesses; i++) {
            int sworn = now.swears(i);
            for (int j = i + 1; j < now.witnesses && sworn != 0; j++) {
                if (now.swears(j) == sworn) {
                    alike++;
                }
            }
        }
        return alike;
    }

    public long locked(int field, int p, int what) {
        if (!now.there) {
            return STATE;
        }
        if (!isField(field) || p < 0 || p > CASES || !isOneOfTwo(what)) {
            return BAD;
        }
        long above = coffin.casesThrough(now, field, p);
        long below = coffin.tens[Integer.bitCount(now.open())];
        long common = commonDivisor(below, above);
        return (what == 0 ? above : below) / common;
    }

    public int drawn(int n, int seed, int what) {
        if (!now.there) {
            return STATE;
        }
        if (n < 0 || n > FORETOLD || seed < 1 || seed > LAST_SEED || !isOneOfTwo(what)) {
            return BAD;
        }
        draft.become(now);
        int burials = 0;
        long x = seed;
        for (int k = 0; k < n; k++) {
            x = x * 16807 % 2147483647;
            if (coffin.isBurial(draft, (int) (x % FIELDS))) {
                draft.see(coffin);
                burials++;
            }
            draft.pass();
        }
        return what == 0 ? draft.ways() : burials;
    }

    public int image(int k) {
        if (k < 0 || k >= IMAGES) {
            return BAD;
        }
        if (!now.there) {
            return STATE;
        }
        images[k].become(now);
        return 1;
    }

    public int restore(int k) {
        if (k < 0 || k >= IMAGES) {
            return BAD;
        }
        if (!images[k].there) {
            return STATE;
        }
        now.become(images[k]);
        forgetActs();
        return 1;
    }

    // ---- asked

    public int kind(int one) {
        return now.hasWitness(one) ? now.sorts[one] : BAD;
    }

    public int as(int one, int kind) {
        if (!now.hasWitness(one) || kind < 0 || kind >= KINDS) {
            return BAD;
        }
        return isOfKind(kinds[now.sorts[one]], kind) ? unfound(one) : found(KIND);
    }

    public int ask(int one, int what) {
        if (!now.hasWitness(one) || !isOneOfTwo(what)) {
            return BAD;
        }
        asked.number = one;
        asked.age = now.ages[one];
        asked.sworn = Integer.bitCount(now.swears(one));
        asked.traced = 0;
        Witness body = kinds[now.sorts[one]];
        return what == 0 ? body.size(asked) : body.mark(asked);
    }

    public int trace(int i) {
        return i >= 0 && i < asked.traced ? asked.bodies[i] : NONE;
    }

    public int count(int what) {
        switch (what) {
            case 0: return rows.standing();
            case 1: return now.paths;
            case 2: return now.witnesses;
            case 3: return now.year;
            case 4: return Integer.bitCount(now.ways());
            case 5: return now.lives;
            case 6: return actsKept;
            case 7: return tape.size;
            default: return BAD;
        }
    }

    public int status() {
        return finding;
    }

    // ---- what several calls need

    private int found(int number) {
        finding = number;
        return FINDINGS - number;
    }

    private int unfound(int answer) {
        finding = 0;
        return answer;
    }

    private void keepAct() {
        now.save(acts[nextAct]);
        nextAct = (nextAct + 1) % ACTS;
        actsKept = Math.min(actsKept + 1, ACTS);
    }

    private void forgetActs() {
        actsKept = 0;
    }

    private int newWays(int field) {
        if (!coffin.isBurial(now, field)) {
            return NONE;
        }
        return Integer.bitCount(now.waysBehind(coffin) & ~now.ways());
    }

    /** A kind decides what is seen from now on, and how long one of it lives; what was seen stays. */
    private int fittingKinds(int witness, int[] told, int i, int n) {
        int fitting = 0;
        for (int kind = NEIGHBOUR; kind < KINDS; kind++) {
            sawAs[kind] = now.saw[witness];
            fitting |= 1 << kind;
        }
        for (int turn = 0; turn < n; turn++) {
            boolean buried = coffin.isBurial(now, told[i + 2 * turn]);
            for (int kind = NEIGHBOUR; kind < KINDS; kind++) {
                if (buried) {
                    sawAs[kind] |= kinds[kind].sees(now, now.homes[witness], coffin);
                }
                int sworn = now.ages[witness] > kinds[kind].span(now.lives) ? 0 : sawAs[kind];
                if (sworn != told[i + 2 * turn + 1]) {
                    fitting &= ~(1 << kind);
                }
            }
        }
        return fitting;
    }

    private static boolean isRow(int row) {
        return row >= 0 && row < ROWS;
    }

    private static boolean isField(int field) {
        return field >= 0 && field < FIELDS;
    }

    private static boolean isOneOfTwo(int what) {
        return what == 0 || what == 1;
    }

    private static boolean isOfKind(Witness body, int kind) {
        switch (kind) {
            case WITNESS: return true;
            case NEIGHBOUR: return body instanceof Neighbour;
            case CHILD: return body instanceof Child;
            case FARMER: return body instanceof Farmer;
            case STRANGER: return body instanceof Stranger;
            case SMITH: return body instanceof Smith;
            default: return false;
        }
    }

    private static int bitOf(int bits, int i) {
        return bits >> i & 1;
    }

    /** Of a number above 0 and one that is 0 or more: never 0, so that it can divide. */
    private static long commonDivisor(long above0, long other) {
        long a = above0;
        long b = other;
        for (int k = 0; k < 200 && b != 0; k++) {
            long rest = a % b;
            a = b;
            b = rest;
        }
        return a > 0 ? a : 1;
    }

    /** Rows of items; every lane is held in ints that are cut to it as they are put. */
    private static final class Rows {
        static final int MISSING = -1;
        final int[][] items;
        final int[] lanes;
        final int[] sizes;

        Rows() {
            items = new int[ROWS][ITEMS];
            lanes = new int[ROWS];
            sizes = new int[ROWS];
            for (int row = 0; row < ROWS; row++) {
                sizes[row] = MISSING;
            }
        }

        boolean isMissing(int row) {
            return sizes[row] == MISSING;
        }

        boolean has(int row, int i, int n) {
            // Not i + n: two large numbers together would wrap around.
            return i >= 0 && n >= 0 && i <= sizes[row] && n <= sizes[row] - i;
        }

        /** The finding of whoever wants n items from i on; 0: none. */
        int amiss(int row, int i, int n) {
            return isMissing(row) ? NULL : has(row, i, n) ? 0 : PLACE;
        }

        void lay(int row, int lane, int n) {
            lanes[row] = lane;
            sizes[row] = n;
            for (int i = 0; i < n; i++) {
                items[row][i] = 0;
            }
        }

        int put(int row, int i, int v) {
            int cut = lanes[row] == BYTES ? (byte) v : lanes[row] == SHORTS ? (short) v : v;
            items[row][i] = cut;
            return cut;
        }

        int standing() {
            int n = 0;
            for (int row = 0; row < ROWS; row++) {
                if (!isMissing(row)) {
                    n++;
                }
            }
            return n;
        }
    }

    /** The tape, and how it is read token by token. */
    private static final class Tape {
        static final int NO_TOKEN = -1, END = 0, NUMBER = 1;
        static final int CANNOT_STAND = 1, NOT_AS_TOLD = 2, NO_ROOM = 3;
        final int[] bytes;
        int size;
        int fault;
        int place;
        // The token that is read now: its first byte's place, what it is (letters and signs are their bytes), its value.
        private int at;
        private int token;
        private int value;
        private int next;

        Tape() {
            bytes = new int[TAPE];
        }

        void append(int letter) {
            bytes[size] = letter;
            size++;
        }

        boolean read(Parish to) {
            to.clear();
            next = 0;
            take();
            if (!readLaw(to)) {
                return false;
            }
            // A path is due even where none stands: the first round asks for its letter.
            for (int i = 0; i <= PATHS && (i == 0 || token == 'p'); i++) {
                if (!readPath(to)) {
                    return false;
                }
            }
            for (int i = 0; i <= WITNESSES && sortOf(token) != WITNESS; i++) {
                if (!readWitness(to)) {
                    return false;
                }
            }
            if (token != END) {
                return fails(CANNOT_STAND);
            }
            to.there = true;
            return true;
        }

        private boolean readLaw(Parish to) {
            if (!takes('c') || !isNumber(0, FIELDS - 1)) {
                return false;
            }
            to.church = value;
            take();
            if (!takes(',') || !isNumber(20, 90)) {
                return false;
            }
            to.lives = value;
            take();
            return takes(';');
        }

        private boolean readPath(Parish to) {
            if (token == 'p' && to.paths >= PATHS) {
                return fails(NO_ROOM);
            }
            if (!takes('p') || !isNumber(0, FIELDS - 1)) {
                return false;
            }
            int start = value;
            take();
            if (!takes(',') || !isNumber(0, FIELDS - 1)) {
                return false;
            }
            int end = value;
            if (start == end || to.isJoined(start, end)) {
                return fails(NOT_AS_TOLD);
            }
            take();
            if (!takes(',') || !isNumber(1, 9)) {
                return false;
            }
            to.addPath(start, end, value);
            take();
            return takes(';');
        }

        private boolean readWitness(Parish to) {
            if (to.witnesses >= WITNESSES) {
                return fails(NO_ROOM);
            }
            int sort = sortOf(token);
            take();
            if (!isNumber(0, 60)) {
                return false;
            }
            int age = value;
            take();
            if (!takes(',') || !isNumber(0, FIELDS - 1)) {
                return false;
            }
            to.addWitness(sort, age, value);
            take();
            return takes(';');
        }

        private static int sortOf(int letter) {
            switch (letter) {
                case 'n': return NEIGHBOUR;
                case 'c': return CHILD;
                case 'f': return FARMER;
                case 's': return STRANGER;
                case 'm': return SMITH;
                default: return WITNESS;
            }
        }

        private boolean fails(int number) {
            fault = number;
            place = at;
            return false;
        }

        private boolean takes(int letter) {
            if (token != letter) {
                return fails(CANNOT_STAND);
            }
            take();
            return true;
        }

        private boolean isNumber(int least, int most) {
            if (token != NUMBER) {
                return fails(CANNOT_STAND);
            }
            return value >= least && value <= most || fails(NOT_AS_TOLD);
        }

        private void take() {
            at = next;
            if (at >= size) {
                token = END;
                return;
            }
            int letter = bytes[at];
            next = at + 1;
            if (isFigure(letter)) {
                takeNumber();
            } else if (letter >= 'a' && letter <= 'z' || letter == ',' || letter == ';') {
                token = letter;
            } else {
                token = NO_TOKEN;
            }
        }

        private void takeNumber() {
            value = 0;
            for (next = at; next < size && isFigure(bytes[next]); next++) {
                value = next - at < 2 ? value * 10 + bytes[next] - '0' : value;
            }
            token = next - at > 2 ? NO_TOKEN : NUMBER;
        }

        private static boolean isFigure(int letter) {
            return letter >= '0' && letter <= '9';
        }
    }

    /** A parish at one time: as it is now, is foretold, or was kept. */
    private static final class Parish {
        final Witness[] kinds;
        boolean there;
        int church;
        int lives;
        int year;
        int paths;
        int witnesses;
        // The gates that are locked, as bits.
        int gates;
        final int[] starts;
        final int[] ends;
        final int[] longs;
        final int[] sorts;
        final int[] homes;
        final int[] ages;
        final int[] saw;

        Parish(Witness[] kinds) {
            this.kinds = kinds;
            starts = new int[PATHS];
            ends = new int[PATHS];
            longs = new int[PATHS];
            sorts = new int[WITNESSES];
            homes = new int[WITNESSES];
            ages = new int[WITNESSES];
            saw = new int[WITNESSES];
        }

        /** What was foretold here is gone; the law that is read next says the rest. */
        void clear() {
            year = 0;
            paths = 0;
            witnesses = 0;
            gates = 0;
        }

        void become(Parish other) {
            there = other.there;
            church = other.church;
            lives = other.lives;
            year = other.year;
            paths = other.paths;
            witnesses = other.witnesses;
            gates = other.gates;
            System.arraycopy(other.starts, 0, starts, 0, PATHS);
            System.arraycopy(other.ends, 0, ends, 0, PATHS);
            System.arraycopy(other.longs, 0, longs, 0, PATHS);
            System.arraycopy(other.sorts, 0, sorts, 0, WITNESSES);
            System.arraycopy(other.homes, 0, homes, 0, WITNESSES);
            System.arraycopy(other.ages, 0, ages, 0, WITNESSES);
            System.arraycopy(other.saw, 0, saw, 0, WITNESSES);
        }

        /** Only what an act can change. */
        void save(int[] kept) {
            kept[0] = year;
            kept[1] = gates;
            System.arraycopy(ages, 0, kept, 2, WITNESSES);
            System.arraycopy(saw, 0, kept, 2 + WITNESSES, WITNESSES);
        }

        void load(int[] kept) {
            year = kept[0];
            gates = kept[1];
            System.arraycopy(kept, 2, ages, 0, WITNESSES);
            System.arraycopy(kept, 2 + WITNESSES, saw, 0, WITNESSES);
        }

        void addPath(int start, int end, int length) {
            starts[paths] = start;
            ends[paths] = end;
            longs[paths] = length;
            paths++;
        }

        void addWitness(int sort, int age, int home) {
            sorts[witnesses] = sort;
            ages[witnesses] = age;
            homes[witnesses] = home;
            saw[witnesses] = 0;
            witnesses++;
        }

        boolean hasPath(int path) {
            return path >= 0 && path < paths;
        }

        boolean hasWitness(int witness) {
            return witness >= 0 && witness < witnesses;
        }

        boolean isJoined(int a, int b) {
            return (pathsAt(a) & pathsAt(b)) != 0;
        }

        int allPaths() {
            return (1 << paths) - 1;
        }

        int open() {
            return allPaths() & ~gates;
        }

        int pathsAt(int field) {
            int at = 0;
            for (int i = 0; i < paths; i++) {
                if (starts[i] == field || ends[i] == field) {
                    at |= 1 << i;
                }
            }
            return at;
        }

        boolean isAlive(int witness) {
            return ages[witness] <= kinds[sorts[witness]].span(lives);
        }

        int swears(int witness) {
            return isAlive(witness) ? saw[witness] : 0;
        }

        int living() {
            int alive = 0;
            for (int i = 0; i < witnesses; i++) {
                if (isAlive(i)) {
                    alive |= 1 << i;
                }
            }
            return alive;
        }

        int swearing(int path) {
            int who = 0;
            for (int i = 0; i < witnesses; i++) {
                who |= bitOf(swears(i), path) << i;
            }
            return who;
        }

        /** What some witnesses (bits) swear to together. */
        int sworn(int some) {
            int together = 0;
            for (int i = 0; i < witnesses; i++) {
                if (bitOf(some, i) == 1) {
                    together |= swears(i);
                }
            }
            return together;
        }

        int ways() {
            return sworn((1 << witnesses) - 1);
        }

        int seenBy(int witness, Coffin coffin) {
            return isAlive(witness) ? kinds[sorts[witness]].sees(this, homes[witness], coffin) : 0;
        }

        int waysBehind(Coffin coffin) {
            int behind = 0;
            for (int i = 0; i < witnesses; i++) {
                behind |= swears(i) | seenBy(i, coffin);
            }
            return behind;
        }

        void see(Coffin coffin) {
            for (int i = 0; i < witnesses; i++) {
                saw[i] |= seenBy(i, coffin);
            }
        }

        /** A year passes. */
        void pass() {
            for (int i = 0; i < witnesses; i++) {
                if (isAlive(i)) {
                    ages[i]++;
                }
                saw[i] = kinds[sorts[i]].keeps(saw[i], year);
            }
            year++;
        }
    }

    /** How a coffin goes to church by some paths (bits), and what stops it. */
    private static final class Coffin {
        static final int NOT_THROUGH = -1, SIDES = 1 << FIELDS;
        // What carry() found out: how long it is, its paths, the first of them (bits).
        int length;
        int route;
        int first;
        // How far each field is from church.
        private final int[] far;
        // By sets of fields (bits): open paths with both ends within; cases in which all hang together.
        private final int[] within;
        private final long[] joined;
        final long[] tens;
        private final long[] powers;

        Coffin() {
            far = new int[FIELDS];
            within = new int[SIDES];
            joined = new long[SIDES];
            tens = new long[PATHS + 1];
            powers = new long[PATHS + 1];
            long ten = 1;
            for (int n = 0; n <= PATHS; n++) {
                tens[n] = ten;
                ten *= CASES;
            }
        }

        boolean isBurial(Parish parish, int field) {
            return field != parish.church && carry(parish, parish.open(), field);
        }

        boolean carry(Parish parish, int open, int field) {
            measure(parish, open);
            length = far[field];
            route = 0;
            first = 0;
            if (length == NOT_THROUGH) {
                return false;
            }
            int at = field;
            for (int step = 0; step < FIELDS && at != parish.church; step++) {
                int to = nextField(parish, open, at);
                if (to == FIELDS) {
                    return false;
                }
                int path = parish.pathsAt(at) & parish.pathsAt(to);
                first = step == 0 ? path : first;
                route |= path;
                at = to;
            }
            return true;
        }

        private void measure(Parish parish, int open) {
            for (int field = 0; field < FIELDS; field++) {
                far[field] = NOT_THROUGH;
            }
            far[parish.church] = 0;
            boolean changed = true;
            for (int round = 0; round < FIELDS && changed; round++) {
                changed = false;
                for (int i = 0; i < parish.paths; i++) {
                    if (bitOf(open, i) == 1) {
                        changed |= shorten(parish.starts[i], parish.ends[i], parish.longs[i]);
                        changed |= shorten(parish.ends[i], parish.starts[i], parish.longs[i]);
                    }
                }
            }
        }

        private boolean shorten(int field, int by, int more) {
            if (far[by] == NOT_THROUGH || far[field] != NOT_THROUGH && far[field] <= far[by] + more) {
                return false;
            }
            far[field] = far[by] + more;
            return true;
        }

        /** The least neighbour that lies on a shortest way: so the row of fields is the first one. */
        private int nextField(Parish parish, int open, int at) {
            int least = FIELDS;
            for (int i = 0; i < parish.paths; i++) {
                if (bitOf(open, i) == 1 && (parish.starts[i] == at || parish.ends[i] == at)) {
                    int to = parish.starts[i] == at ? parish.ends[i] : parish.starts[i];
                    if (to < least && far[to] != NOT_THROUGH && far[to] + parish.longs[i] == far[at]) {
                        least = to;
                    }
                }
            }
            return least;
        }

        /**
         * Locked gates stop it if they part a set of fields with this one from the rest with the church;
         * the fewest are no more than that, so it is enough to go through these sets.
         */
        int fewestGates(Parish parish, int open, int field) {
            int fewest = open;
            for (int side = 0; side < SIDES; side++) {
                if (bitOf(side, field) == 1 && bitOf(side, parish.church) == 0) {
                    int gates = between(parish, open, side);
                    int more = Integer.bitCount(gates) - Integer.bitCount(fewest);
                    if (more < 0 || more == 0 && gates < fewest) {
                        fewest = gates;
                    }
                }
            }
            return fewest;
        }

        private static int between(Parish parish, int open, int side) {
            int paths = 0;
            for (int i = 0; i < parish.paths; i++) {
                if (bitOf(side, parish.starts[i]) != bitOf(side, parish.ends[i])) {
                    paths |= 1 << i;
                }
            }
            return paths & open;
        }

        /**
         * In how many of the cases (10 for each open gate) it comes through when each open gate is locked in p of 10:
         * in all but those where the fields that hang together with its own are a set without the church.
         */
        long casesThrough(Parish parish, int field, int p) {
            countWithin(parish);
            fillPowers(p);
            int all = SIDES - 1;
            long through = tens[within[all]];
            for (int side = 0; side < SIDES; side++) {
                if (bitOf(side, field) == 1 && bitOf(side, parish.church) == 0) {
                    joined[side] = casesJoined(side, field);
                    through -= casesParted(side, all);
                }
            }
            return through;
        }

        /** All hang together in all cases but those where only a smaller set hangs together with the field. */
        private long casesJoined(int side, int field) {
            long cases = tens[within[side]];
            int less = side;
            for (int k = 0; k < SIDES && less != 0; k++) {
                less = less - 1 & side;
                if (bitOf(less, field) == 1) {
                    cases -= casesParted(less, side);
                }
            }
            return cases;
        }

        /** A part hangs together, and every gate between it and the rest of the whole is locked. */
        private long casesParted(int part, int whole) {
            int rest = whole & ~part;
            int parting = within[whole] - within[part] - within[rest];
            return joined[part] * powers[parting] * tens[within[rest]];
        }

        private void countWithin(Parish parish) {
            int open = parish.open();
            for (int side = 0; side < SIDES; side++) {
                within[side] = 0;
                for (int i = 0; i < parish.paths; i++) {
                    within[side] += bitOf(open, i) & bitOf(side, parish.starts[i]) & bitOf(side, parish.ends[i]);
                }
            }
        }

        private void fillPowers(int p) {
            long power = 1;
            for (int n = 0; n <= PATHS; n++) {
                powers[n] = power;
                power *= p;
            }
        }
    }

    /** The witness who is asked, and the trace of the bodies that began. */
    private static final class Asked {
        int number;
        int age;
        int sworn;
        int traced;
        final int[] bodies;

        Asked() {
            bodies = new int[TRACE];
        }

        void begin(int body) {
            if (traced < TRACE) {
                bodies[traced] = body;
                traced++;
            }
        }
    }

    /**
     * What all witnesses have; of each kind there is one object, and who is meant comes as an argument.
     * Below it methods override without the annotation: LANGUAGE.md's library does not list it.
     */
    private static class Witness {
        int span(int lives) {
            return lives;
        }

        int sees(Parish parish, int home, Coffin coffin) {
            return 0;
        }

        int keeps(int saw, int year) {
            return saw;
        }

        int size(Asked asked) {
            asked.begin(10);
            return asked.sworn;
        }

        int mark(Asked asked) {
            asked.begin(20);
            return asked.number;
        }
    }

    private static class Neighbour extends Witness {
        int sees(Parish parish, int home, Coffin coffin) {
            return coffin.route & parish.pathsAt(home);
        }

        int size(Asked asked) {
            asked.begin(11);
            int lent = super.size(asked);
            return lent + mark(asked);
        }

        int mark(Asked asked) {
            asked.begin(21);
            return super.mark(asked) + asked.age;
        }
    }

    private static final class Child extends Neighbour {
        int span(int lives) {
            return lives + 9;
        }

        int sees(Parish parish, int home, Coffin coffin) {
            boolean all = super.sees(parish, home, coffin) != 0 || home == parish.church;
            return all ? coffin.route : 0;
        }

        int size(Asked asked) {
            asked.begin(12);
            return -super.size(asked);
        }

        int mark(Asked asked) {
            asked.begin(24);
            return 2 * super.mark(asked);
        }
    }

    private static final class Farmer extends Neighbour {
        int sees(Parish parish, int home, Coffin coffin) {
            boolean shutIn = (parish.pathsAt(home) & parish.gates) != 0;
            return shutIn ? 0 : super.sees(parish, home, coffin);
        }

        int mark(Asked asked) {
            asked.begin(22);
            return super.mark(asked) - 1000;
        }
    }

    private static class Stranger extends Witness {
        int sees(Parish parish, int home, Coffin coffin) {
            return coffin.route;
        }

        int keeps(int saw, int year) {
            return year % 3 == 2 ? 0 : saw;
        }

        int size(Asked asked) {
            asked.begin(13);
            return super.size(asked) - 100;
        }

        int mark(Asked asked) {
            asked.begin(23);
            int lent = super.mark(asked);
            return lent - size(asked);
        }
    }

    private static final class Smith extends Stranger {
        int sees(Parish parish, int home, Coffin coffin) {
            return coffin.first;
        }

        int keeps(int saw, int year) {
            return saw & saw - 1;
        }

        int size(Asked asked) {
            asked.begin(14);
            return 2 * super.size(asked);
        }
    }
}
