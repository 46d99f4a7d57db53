/** Terms, part 4, and promises 33 to 38: what is asked of witnesses, the trace, counts, the status, each at its edges. */
public final class AskEdgesTest {
    private static final Check CHECK = new Check();
    private static final String FIVE = "c0,20;p0,1,1;p1,2,1;n3,1;c4,1;f5,1;s6,1;m7,1;n21,1;";

    private AskEdgesTest() {
    }

    public static void main(String[] args) {
        kinds();
        asEachKind();
        asRefused();
        sizes();
        marks();
        numbers();
        deadOnes();
        askRefused();
        traceEmptyAhead();
        tracePlaces();
        countsEach();
        countRefused();
        statusOfEachFinding();
        statusStays();
        statusOfCallsWithoutARow();
        fiveHundredTwelveCalls();
        CHECK.end();
    }

    private static void due(String call, long got, long want) {
        CHECK.due(call, got, want);
    }

    /** Promise 33: "The KIND of a WITNESS, as told (1 to 5). BAD". */
    private static void kinds() {
        CoffinWays x = Told.parish(FIVE);
        int[] told = {1, 2, 3, 4, 5, 1};
        for (int one = 0; one < 6; one++) {
            due("kind " + one, x.kind(one), told[one]);
        }
        for (int one : new int[] {-1, 6, Told.LOWEST, Told.HIGHEST}) {
            due("kind of " + one, x.kind(one), Told.BAD);
        }
        due("no parish", new CoffinWays().kind(0), Told.BAD);
        due("no witness", Told.parish("c0,20;p0,1,1;").kind(0), Told.BAD);
        x.as(4, 4);
        due("as told, whatever it was taken as", x.kind(4), 5);
        x.follow(5);
        due("as told of who came", x.kind(5), 1);
    }

    /** "1 NEIGHBOUR, a WITNESS; 2 CHILD, a NEIGHBOUR; 3 FARMER, a NEIGHBOUR; 4 STRANGER, a WITNESS; 5 SMITH, a STRANGER". */
    private static void asEachKind() {
        CoffinWays x = Told.parish(FIVE);
        int[] are = {0b000011, 0b000111, 0b001011, 0b010001, 0b110001, 0b000011};
        for (int one = 0; one < 6; one++) {
            for (int kind = 0; kind <= 5; kind++) {
                boolean is = (are[one] >> kind & 1) == 1;
                due(one + " as " + kind, x.as(one, kind), is ? one : Told.KIND);
                due("status", x.status(), is ? 0 : 3);
            }
        }
    }

    /** Promise 34: "of a KIND (0 .. 5). BAD". */
    private static void asRefused() {
        CoffinWays x = Told.parish(FIVE);
        for (int kind : new int[] {-1, 6, Told.LOWEST, Told.HIGHEST}) {
            due("kind " + kind, x.as(0, kind), Told.BAD);
            due("nobody as kind " + kind, x.as(6, kind), Told.BAD);
        }
        for (int one : new int[] {-1, 6, Told.LOWEST, Told.HIGHEST}) {
            for (int kind = 0; kind <= 5; kind++) {
                due(one + " as " + kind, x.as(one, kind), Told.BAD);
            }
        }
        due("no parish", new CoffinWays().as(0, 0), Told.BAD);
        due("no witness", Told.parish("c0,20;p0,1,1;").as(0, 0), Told.BAD);
    }

    private static void asks(CoffinWays x, int one, int what, int answer, int... trace) {
        due("ask " + one + ", " + what, x.ask(one, what), answer);
        for (int i = 0; i < trace.length; i++) {
            due("trace " + i + " of " + one + ", " + what, x.trace(i), trace[i]);
        }
        for (int i = trace.length; i <= 16; i++) {
            due("the trace of " + one + ", " + what + " has an end", x.trace(i), Told.NONE);
        }
    }

    /** "0 SIZE: 10 .. 14". */
    private static void sizes() {
        CoffinWays x = Told.parish(FIVE);
        x.bury(2);
        asks(x, 0, 0, 2 + 0 + 3, 11, 10, 21, 20);
        asks(x, 1, 0, -(2 + 2 * (1 + 4)), 12, 11, 10, 24, 21, 20);
        asks(x, 2, 0, 2 + 2 + 5 - 1000, 11, 10, 22, 21, 20);
        asks(x, 3, 0, 2 - 100, 13, 10);
        asks(x, 4, 0, 2 * (1 - 100), 14, 13, 10);
        asks(x, 5, 0, 0 + 5 + 21, 11, 10, 21, 20);
    }

    /** "1 MARK: 20 .. 24". */
    private static void marks() {
        CoffinWays x = Told.parish(FIVE);
        x.bury(2);
        asks(x, 0, 1, 0 + 3, 21, 20);
        asks(x, 1, 1, 2 * (1 + 4), 24, 21, 20);
        asks(x, 2, 1, 2 + 5 - 1000, 22, 21, 20);
        asks(x, 3, 1, 3 - (2 - 100), 23, 20, 13, 10);
        asks(x, 4, 1, 4 - 2 * (1 - 100), 23, 20, 14, 13, 10);
        asks(x, 5, 1, 5 + 21, 21, 20);
    }

    /** A child and a smith as each number, who swear to nothing or to as much as they can. */
    private static void numbers() {
        String paths = "c0,20;p0,1,1;p1,2,1;p2,3,1;p3,4,1;p4,5,1;p5,6,1;p6,7,1;";
        for (int at = 0; at <= 5; at++) {
            CoffinWays x = Told.parish(paths + "s0,0;".repeat(at) + "c0,0;");
            due("to none", x.ask(at, 0), -2 * at);
            x.bury(7);
            due("to seven", x.ask(at, 0), -7 - 2 * at);
            CoffinWays y = Told.parish(paths + "c0,0;".repeat(at) + "m0,0;");
            due("to none", y.ask(at, 0), -200);
            due("to none", y.ask(at, 1), at + 200);
            y.bury(7);
            due("to one", y.ask(at, 0), -198);
            due("to one", y.ask(at, 1), at + 198);
            y.years(1);
            due("forgotten", y.ask(at, 0), -200);
        }
    }

    /** "to how many PATHS it SWEARS (dead: 0)"; its AGE is what it is. */
    private static void deadOnes() {
        CoffinWays x = Told.parish("c0,20;p0,1,1;n20,1;c29,1;f20,1;s20,1;m20,1;");
        x.bury(1);
        asks(x, 0, 0, 1 + 20, 11, 10, 21, 20);
        asks(x, 1, 0, -(1 + 2 * 30), 12, 11, 10, 24, 21, 20);
        x.years(1);
        asks(x, 0, 0, 0 + 21, 11, 10, 21, 20);
        asks(x, 1, 0, -(0 + 2 * 31), 12, 11, 10, 24, 21, 20);
        asks(x, 2, 0, 0 + 2 + 21 - 1000, 11, 10, 22, 21, 20);
        asks(x, 3, 0, -100, 13, 10);
        asks(x, 3, 1, 103, 23, 20, 13, 10);
        asks(x, 4, 0, -200, 14, 13, 10);
        x.years(24);
        asks(x, 0, 0, 0 + 21, 11, 10, 21, 20);
    }

    /** Promise 35: "An ASK (0, 1) of a WITNESS. BAD". */
    private static void askRefused() {
        CoffinWays x = Told.parish(FIVE);
        for (int what : new int[] {-1, 2, Told.LOWEST, Told.HIGHEST}) {
            due("what " + what, x.ask(0, what), Told.BAD);
        }
        for (int one : new int[] {-1, 6, Told.LOWEST, Told.HIGHEST}) {
            due("one " + one, x.ask(one, 0), Told.BAD);
            due("one " + one, x.ask(one, 1), Told.BAD);
        }
        due("no parish", new CoffinWays().ask(0, 0), Told.BAD);
        due("no witness", Told.parish("c0,20;p0,1,1;").ask(0, 1), Told.BAD);
        due("nothing was traced", x.trace(0), Told.NONE);
    }

    /** Promise 35: "THE TRACE is empty ahead of it". */
    private static void traceEmptyAhead() {
        CoffinWays x = Told.parish(FIVE);
        due("empty at first", x.trace(0), Told.NONE);
        asks(x, 1, 0, -(0 + 10), 12, 11, 10, 24, 21, 20);
        asks(x, 0, 1, 3, 21, 20);
        asks(x, 0, 1, 3, 21, 20);
        x.ask(6, 0);
        due("a refused ask leaves it", x.trace(1), 20);
        x.ask(0, 2);
        due("a refused ask leaves it", x.trace(0), 21);
        x.bury(2);
        x.undo();
        x.image(0);
        x.restore(0);
        due("other calls leave it", x.trace(1), 20);
        Told.tell(x, "c0,20;p0,1,1;");
        due("another parish leaves it", x.trace(0), 21);
        due("another parish leaves it", x.trace(2), Told.NONE);
    }

    /** Promise 36: "Number i of THE TRACE; NONE". */
    private static void tracePlaces() {
        CoffinWays x = Told.parish(FIVE);
        x.ask(1, 0);
        due("the first", x.trace(0), 12);
        due("the last", x.trace(5), 20);
        for (int i : new int[] {-1, 6, 15, 16, 17, Told.LOWEST, Told.HIGHEST}) {
            due("trace " + i, x.trace(i), Told.NONE);
        }
    }

    /** Promise 37: "0 ROWS, 1 PATHS, 2 WITNESSES, 3 YEAR, 4 how many WAYS, 5 LIVES, 6 ACTS, 7 bytes on the tape". */
    private static void countsEach() {
        CoffinWays x = Told.parish("c0,90;p0,1,1;p1,2,1;p2,3,1;p3,4,1;n0,1;n0,2;n0,7;");
        int[] counts = {0, 4, 3, 0, 0, 90, 0, 0};
        counted(x, counts);
        for (int row = 0; row <= 7; row++) {
            x.row(row, 0, 0);
        }
        counts[0] = 8;
        counted(x, counts);
        x.bury(4);
        counts[4] = 3;
        counts[6] = 1;
        counted(x, counts);
        x.years(5);
        counts[3] = 5;
        counts[6] = 6;
        counted(x, counts);
        for (int n = 0; n < 140; n++) {
            x.feed('?');
        }
        counts[7] = 140;
        counted(x, counts);
        x.undo();
        counts[3] = 4;
        counts[6] = 5;
        counted(x, counts);
    }

    private static void counted(CoffinWays x, int[] counts) {
        for (int what = 0; what <= 7; what++) {
            due("count " + what, x.count(what), counts[what]);
        }
    }

    /** Promise 37: "BAD"; without a parish all that is its own is 0. */
    private static void countRefused() {
        CoffinWays none = new CoffinWays();
        CoffinWays x = Told.parish(FIVE);
        for (int what : new int[] {-1, 8, Told.LOWEST, Told.HIGHEST}) {
            due("what " + what, x.count(what), Told.BAD);
            due("what " + what, none.count(what), Told.BAD);
        }
        counted(none, new int[8]);
        none.row(0, 0, 1);
        none.feed(0);
        counted(none, new int[] {1, 0, 0, 0, 0, 0, 0, 1});
    }

    /** "1 NULL, 2 PLACE, 3 KIND, 4 SIZE, 5 STORE": answered as -1000010 less these, and told by status(). */
    private static void statusOfEachFinding() {
        CoffinWays x = Told.parish(FIVE);
        due("0 at first", x.status(), 0);
        found(x, x.set(0, 0, 0), 1);
        found(x, x.drop(0), 1);
        found(x, x.copy(0, 0, 0, 0, 0), 1);
        found(x, x.from(0, 0), 1);
        found(x, x.who(0, 0, 0, 1), 1);
        x.row(0, 0, 2);
        x.row(1, 1, 2);
        found(x, x.set(0, 2, 0), 2);
        found(x, x.copy(0, 0, 0, 1, 2), 2);
        found(x, x.from(0, 2), 2);
        found(x, x.who(0, 0, 1, 1), 2);
        found(x, x.as(0, 5), 3);
        found(x, x.row(0, 0, -1), 4);
        found(x, x.copy(0, 0, 1, 0, 1), 5);
        fine(x, x.set(0, 0, 0));
        fine(x, x.copy(0, 0, 0, 1, 1));
        fine(x, x.from(0, 0));
        fine(x, x.who(0, 0, 0, 1));
        fine(x, x.as(0, 1));
        fine(x, x.drop(1));
        fine(x, x.row(0, 0, 1));
    }

    private static void found(CoffinWays x, int answer, int number) {
        due("found", answer, -1000010 - number);
        due("status", x.status(), number);
        due("status tells it again", x.status(), number);
        // Another finding in between, so that the next one is seen to be its own.
        due("in between", x.row(0, 0, -1), Told.SIZE);
        due("status", x.status(), 4);
    }

    private static void fine(CoffinWays x, int answer) {
        due("fine", answer >= 0 ? 1 : 0, 1);
        due("status", x.status(), 0);
        x.row(0, 0, -1);
        due("status", x.status(), 4);
    }

    /** "that was not BAD, STATE, FULL": these leave it, be it a finding or none. */
    private static void statusStays() {
        for (int at = 0; at <= 1; at++) {
            CoffinWays none = new CoffinWays();
            CoffinWays x = Told.parish(FIVE);
            for (CoffinWays one : new CoffinWays[] {none, x}) {
                one.row(0, 0, 2);
                one.set(0, 0, 8);
                due("place, or fine", one.set(0, at == 1 ? 2 : 1, 0), at == 1 ? Told.PLACE : 0);
            }
            int status = at == 1 ? 2 : 0;
            stays(x, x.row(8, 0, 1), Told.BAD, status);
            stays(x, x.row(0, 0, 41), Told.BAD, status);
            stays(x, x.set(8, 0, 1), Told.BAD, status);
            stays(x, x.copy(8, 0, 0, 0, 1), Told.BAD, status);
            stays(x, x.drop(8), Told.BAD, status);
            stays(x, x.from(8, 0), Told.BAD, status);
            stays(x, x.who(6, 0, 0, 1), Told.BAD, status);
            stays(x, x.who(0, 0, 0, 1), Told.BAD, status);
            stays(x, x.as(6, 0), Told.BAD, status);
            stays(x, x.as(0, 6), Told.BAD, status);
            stays(none, none.from(0, 0), Told.STATE, status);
            stays(none, none.from(1, 0), Told.STATE, status);
            stays(none, none.from(8, 0), Told.STATE, status);
            stays(none, none.who(0, 1, 0, 1), Told.BAD, status);
            stays(none, none.as(0, 0), Told.BAD, status);
        }
    }

    private static void stays(CoffinWays x, int answer, int want, int status) {
        due("refused", answer, want);
        due("status stays", x.status(), status);
    }

    /** "Of the latest call with a ROW, or as()": the others leave it, answered or refused. */
    private static void statusOfCallsWithoutARow() {
        CoffinWays x = Told.parish(FIVE);
        x.as(0, 4);
        x.bury(2);
        x.years(1);
        x.years(0);
        x.lock(0, 1);
        x.lock(0, 1);
        x.follow(5);
        x.undo();
        x.witness(0, 0);
        x.path(0, 0);
        x.stand(0);
        x.ahead(1);
        x.lost(0);
        x.goes(1, 0);
        x.stop(1, 0);
        x.must(1);
        x.live(1, 0);
        x.makes(1);
        x.best(0);
        x.far(1);
        x.pairs();
        x.locked(1, 1, 0);
        x.drawn(1, 1, 0);
        x.image(0);
        x.restore(0);
        x.kind(0);
        x.ask(0, 0);
        x.trace(0);
        x.count(0);
        x.feed(0);
        x.feed(256);
        x.parish();
        x.fault();
        due("status", x.status(), 3);
        Told.tell(x, FIVE);
        due("another parish leaves it", x.status(), 3);
        x.as(0, 0);
        x.bury(8);
        due("0 stays, too", x.status(), 0);
    }

    /** "An object is used for at most 512 calls": the last of these answers as the first. */
    private static void fiveHundredTwelveCalls() {
        CoffinWays x = Told.parish(FIVE);
        int locked = 0;
        for (int call = FIVE.length() + 2; call <= 510; call++) {
            locked = 2 - locked;
            due("call " + call, x.lock(1, locked / 2), locked);
        }
        due("call 511", x.undo(), 23);
        due("call 512", x.stand(1), 2 - locked);
    }
}
