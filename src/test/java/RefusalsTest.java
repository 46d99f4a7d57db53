import java.util.ArrayList;
import java.util.List;

/**
 * "What is refused, or found, changes nothing but status()", and of what is foretold "nothing changes": of two objects
 * made alike one takes the call, and then both answer all that can be asked alike.
 */
public final class RefusalsTest {
    private static final Check CHECK = new Check();

    private interface Call {
        long on(CoffinWays x);
    }

    private interface Maker {
        CoffinWays made();
    }

    private RefusalsTest() {
    }

    public static void main(String[] args) {
        badOfRows();
        badOfActs();
        badOfWhatIsForetold();
        stateAndFull();
        findings();
        foretold();
        looked();
        rowsAlone();
        withoutAParish();
        CHECK.end();
    }

    /** All there is: acts, a dead one, locked gates, rows of each lane, images, a tape, a trace, a fault, a finding. */
    private static CoffinWays rich() {
        CoffinWays x = new CoffinWays();
        Told.tell(x, "c9");
        Told.tell(x, "c0,20;p0,1,1;p1,2,1;p2,3,1;p0,4,2;n19,1;c9,2;f0,3;s0,5;m0,6;");
        x.bury(3);
        x.image(0);
        x.years(2);
        x.lock(3, 1);
        Told.lay(x, 0, 2, 1, 2, 4);
        Told.lay(x, 1, 1, 3, 7);
        Told.lay(x, 2, 0, 9);
        x.row(3, 2, 0);
        x.ask(1, 0);
        x.feed('c');
        x.as(0, 5);
        return x;
    }

    private static CoffinWays empty() {
        CoffinWays x = new CoffinWays();
        Told.lay(x, 0, 2, 1, 2, 4);
        x.feed('c');
        x.as(0, 5);
        x.drop(7);
        return x;
    }

    /** Nobody has seen anything. */
    private static CoffinWays unseen() {
        CoffinWays x = rich();
        for (int acts = 4; acts > 0; acts--) {
            x.undo();
        }
        return x;
    }

    /** From no field it comes through. */
    private static CoffinWays shut() {
        CoffinWays x = rich();
        x.lock(0, 1);
        return x;
    }

    private static CoffinWays fullTape() {
        CoffinWays x = rich();
        for (int n = 2; n <= 140; n++) {
            x.feed(n == 140 ? '?' : ',');
        }
        return x;
    }

    private static CoffinWays lastYear() {
        CoffinWays x = rich();
        Told.live(x, 997);
        return x;
    }

    private static List<Long> seen(CoffinWays x) {
        List<Long> all = new ArrayList<>();
        for (int what = 0; what <= 7; what++) {
            all.add((long) x.count(what));
        }
        all.add((long) x.fault());
        for (int i = 0; i <= 6; i++) {
            all.add((long) x.trace(i));
        }
        for (int what = 0; what <= 3; what++) {
            all.add((long) x.stand(what));
            for (int one = 0; one < 5; one++) {
                all.add((long) x.witness(one, what));
            }
        }
        for (int path = 0; path < 4; path++) {
            for (int what = 0; what <= 4; what++) {
                all.add((long) x.path(path, what));
            }
        }
        all.add((long) x.ahead(1));
        return all;
    }

    /** Each act undone, to the first. */
    private static List<Long> undone(CoffinWays x) {
        List<Long> all = new ArrayList<>();
        for (int k = 0; k < 6; k++) {
            all.add((long) x.undo());
            for (int what = 0; what <= 2; what++) {
                all.add((long) x.stand(what));
            }
            for (int one = 0; one < 5; one++) {
                all.add((long) x.witness(one, 0));
                all.add((long) x.witness(one, 3));
            }
        }
        return all;
    }

    private static List<Long> kept(CoffinWays x) {
        List<Long> all = new ArrayList<>();
        for (int k = 1; k >= 0; k--) {
            all.add((long) x.restore(k));
            all.addAll(seen(x));
        }
        return all;
    }

    private static List<Long> laid(CoffinWays x) {
        List<Long> all = new ArrayList<>();
        all.add((long) Told.tell(x, "0,20;p0,1,1;p0,2,1;p0,3,1;p0,4,1;s0,0;"));
        for (int row = 0; row <= 4; row++) {
            for (int i = 0; i <= 3; i++) {
                all.add((long) x.from(row, i));
            }
            all.add((long) x.copy(row, 0, row == 0 ? 3 : 0, 0, 0));
            all.add((long) x.set(row, 0, 40000));
            all.add((long) x.drop(row));
        }
        return all;
    }

    private static void alike(String what, List<Long> got, List<Long> want) {
        for (int i = 0; i < want.size(); i++) {
            CHECK.due(what + ", part " + i, got.get(i), want.get(i));
        }
    }

    /** The call answers what is due, and leaves all but the status; a finding is the status then. */
    private static void leaves(String name, Maker maker, Call call, long want, int status) {
        for (int part = 0; part <= 2; part++) {
            CoffinWays x = maker.made();
            CoffinWays twin = maker.made();
            CHECK.due(name, call.on(x), want);
            CHECK.due(name + ": status", x.status(), status);
            if (part == 0) {
                alike(name + ": seen", seen(x), seen(twin));
                alike(name + ": undone", undone(x), undone(twin));
            } else if (part == 1) {
                alike(name + ": kept", kept(x), kept(twin));
            } else {
                alike(name + ": laid", laid(x), laid(twin));
            }
        }
    }

    private static void bad(String name, Call call) {
        leaves(name, RefusalsTest::rich, call, Told.BAD, 3);
    }

    private static void state(String name, Call call) {
        leaves(name, RefusalsTest::rich, call, Told.STATE, 3);
    }

    private static void found(String name, Call call, int number) {
        leaves(name, RefusalsTest::rich, call, -1000010 - number, number);
    }

    private static void fine(String name, Call call, long want) {
        leaves(name, RefusalsTest::rich, call, want, 3);
    }

    private static void badOfRows() {
        bad("row(8)", x -> x.row(8, 0, 1));
        bad("row(-1)", x -> x.row(-1, 0, 1));
        bad("row lane 3", x -> x.row(0, 3, 1));
        bad("row lane -1", x -> x.row(0, -1, 1));
        bad("row 41", x -> x.row(0, 2, 41));
        bad("set", x -> x.set(8, 0, 7));
        bad("copy a", x -> x.copy(8, 0, 0, 0, 1));
        bad("copy b", x -> x.copy(0, 0, -1, 0, 1));
        bad("drop", x -> x.drop(8));
        bad("feed", x -> x.feed(256));
        bad("feed", x -> x.feed(-1));
        bad("from", x -> x.from(8, 0));
        bad("who: witness", x -> x.who(5, 1, 0, 1));
        bad("who: row", x -> x.who(0, 8, 0, 1));
        bad("who: n", x -> x.who(0, 1, 0, 0));
        bad("who: no field", x -> x.who(0, 2, 0, 5));
    }

    private static void badOfActs() {
        bad("bury", x -> x.bury(8));
        bad("bury", x -> x.bury(-1));
        bad("years 0", x -> x.years(0));
        bad("years 25", x -> x.years(25));
        bad("lock: path", x -> x.lock(4, 1));
        bad("lock: on", x -> x.lock(0, 2));
        bad("follow", x -> x.follow(5));
        bad("follow", x -> x.follow(-1));
        bad("image", x -> x.image(2));
        bad("image", x -> x.image(-1));
        bad("restore", x -> x.restore(2));
        bad("restore", x -> x.restore(-1));
    }

    private static void badOfWhatIsForetold() {
        bad("witness", x -> x.witness(5, 0));
        bad("path", x -> x.path(4, 0));
        bad("stand", x -> x.stand(4));
        bad("ahead", x -> x.ahead(61));
        bad("lost", x -> x.lost(4));
        bad("goes", x -> x.goes(8, 0));
        bad("stop", x -> x.stop(1, 2));
        bad("must", x -> x.must(8));
        bad("live", x -> x.live(16, 0));
        bad("makes", x -> x.makes(8));
        bad("best", x -> x.best(2));
        bad("far", x -> x.far(8));
        bad("locked", x -> x.locked(1, 11, 0));
        bad("drawn", x -> x.drawn(61, 1, 0));
        bad("drawn", x -> x.drawn(1, 1000000, 0));
        bad("kind", x -> x.kind(5));
        bad("as", x -> x.as(5, 0));
        bad("as", x -> x.as(0, 6));
        bad("ask", x -> x.ask(5, 0));
        bad("ask", x -> x.ask(1, 2));
        bad("count", x -> x.count(8));
    }

    private static void stateAndFull() {
        state("bury: from church", x -> x.bury(0));
        state("bury: not through", x -> x.bury(4));
        state("bury: no path there", x -> x.bury(7));
        state("lock: it is so", x -> x.lock(3, 1));
        state("lock: it is so", x -> x.lock(0, 0));
        state("follow: it lives", x -> x.follow(1));
        state("restore: none was kept", x -> x.restore(1));
        leaves("feed: full", RefusalsTest::fullTape, x -> x.feed('c'), Told.FULL, 3);
        leaves("feed: bad ahead of full", RefusalsTest::fullTape, x -> x.feed(256), Told.BAD, 3);
        leaves("years: full", RefusalsTest::lastYear, x -> x.years(1), Told.FULL, 3);
        leaves("years: full", RefusalsTest::lastYear, x -> x.years(24), Told.FULL, 3);
        leaves("years: bad ahead of full", RefusalsTest::lastYear, x -> x.years(25), Told.BAD, 3);
    }

    private static void findings() {
        found("row: size", x -> x.row(0, 1, -1), 4);
        found("row: size of one that is missing", x -> x.row(4, 1, -1), 4);
        found("set: null", x -> x.set(4, 0, 1), 1);
        found("set: place", x -> x.set(0, 3, 1), 2);
        found("set: place", x -> x.set(0, -1, 1), 2);
        found("copy: null", x -> x.copy(0, 0, 4, 0, 1), 1);
        found("copy: null", x -> x.copy(4, 0, 0, 0, 1), 1);
        found("copy: store", x -> x.copy(0, 0, 1, 0, 1), 5);
        found("copy: place", x -> x.copy(0, 0, 0, 1, 3), 2);
        found("copy: place", x -> x.copy(0, 1, 0, 0, 3), 2);
        found("copy: place", x -> x.copy(0, 0, 3, 0, 1), 2);
        found("drop: null", x -> x.drop(4), 1);
        found("from: null", x -> x.from(4, 0), 1);
        found("from: place", x -> x.from(0, 3), 2);
        found("who: null", x -> x.who(0, 4, 0, 1), 1);
        found("who: place", x -> x.who(0, 1, 1, 1), 2);
        found("as: kind", x -> x.as(4, 1), 3);
    }

    /** "FORETOLD (nothing changes". */
    private static void foretold() {
        fine("ahead", x -> x.ahead(60), 0);
        fine("ahead", x -> x.ahead(0), 7);
        fine("lost", x -> x.lost(0), 19);
        fine("goes", x -> x.goes(3, 1), 7);
        fine("goes: NONE", x -> x.goes(4, 1), Told.NONE);
        fine("goes: from church", x -> x.goes(0, 0), 0);
        fine("stop", x -> x.stop(3, 1), 1);
        fine("stop: not through already", x -> x.stop(7, 0), 0);
        fine("stop: from church", x -> x.stop(0, 0), Told.NONE);
        fine("must", x -> x.must(3), 7);
        fine("must: from church", x -> x.must(0), 0);
        fine("live", x -> x.live(7, 1), 2);
        fine("live: for none", x -> x.live(0, 0), 0);
        fine("live: NONE", x -> x.live(8, 0), Told.NONE);
        fine("makes", x -> x.makes(3), 0);
        fine("makes: from church", x -> x.makes(0), Told.NONE);
        leaves("makes: three", RefusalsTest::unseen, x -> x.makes(3), 3, 3);
        fine("best", x -> x.best(0), 1);
        fine("best: how many", x -> x.best(1), 0);
        leaves("best: NONE", RefusalsTest::shut, x -> x.best(0), Told.NONE, 3);
        fine("far", x -> x.far(4), 2);
        fine("far: from church", x -> x.far(0), 0);
        fine("far: NONE", x -> x.far(7), Told.NONE);
        fine("pairs", x -> x.pairs(), 1);
        leaves("pairs: none", RefusalsTest::unseen, x -> x.pairs(), 0, 3);
        fine("locked", x -> x.locked(3, 5, 1), 8);
        fine("locked: not through", x -> x.locked(4, 5, 0), 0);
        fine("drawn", x -> x.drawn(60, 5, 0), 0);
        fine("drawn", x -> x.drawn(1, 1, 1), 0);
        leaves("from", RefusalsTest::rich, x -> x.from(0, 0), 0, 0);
        leaves("who", RefusalsTest::rich, x -> x.who(3, 1, 0, 1), 2 + 4 + 8 + 16 + 32, 0);
    }

    /** What only looks changes nothing either. */
    private static void looked() {
        fine("witness", x -> x.witness(0, 0), 21);
        fine("path", x -> x.path(3, 3), 1);
        fine("stand", x -> x.stand(1), 8);
        fine("kind", x -> x.kind(4), 5);
        fine("trace", x -> x.trace(0), 12);
        fine("count", x -> x.count(6), 4);
        fine("fault", x -> x.fault(), 2);
        fine("status", x -> x.status(), 3);
        leaves("as", RefusalsTest::rich, x -> x.as(4, 4), 4, 0);
        leaves("as: number 0", RefusalsTest::rich, x -> x.as(0, 1), 0, 0);
        leaves("fault: none", RefusalsTest::empty, x -> x.fault(), 0, 1);
    }

    /** What is done to rows leaves all but the row; here the row, too, is as it was. */
    private static void rowsAlone() {
        leaves("copy: onto itself", RefusalsTest::rich, x -> x.copy(0, 0, 0, 0, 3), 3, 0);
        leaves("copy: none", RefusalsTest::rich, x -> x.copy(0, 3, 0, 0, 0), 0, 0);
        leaves("drop: and laid again", RefusalsTest::rich, x -> {
            int had = x.drop(1);
            Told.lay(x, 1, 1, 3, 7);
            return had;
        }, 2, 0);
    }

    private static void withoutAParish() {
        leaves("undo", RefusalsTest::empty, x -> x.undo(), Told.STATE, 1);
        leaves("bury", RefusalsTest::empty, x -> x.bury(1), Told.STATE, 1);
        leaves("years", RefusalsTest::empty, x -> x.years(1), Told.STATE, 1);
        leaves("lock", RefusalsTest::empty, x -> x.lock(0, 1), Told.BAD, 1);
        leaves("follow", RefusalsTest::empty, x -> x.follow(0), Told.BAD, 1);
        leaves("stand", RefusalsTest::empty, x -> x.stand(0), Told.STATE, 1);
        leaves("ahead", RefusalsTest::empty, x -> x.ahead(0), Told.STATE, 1);
        leaves("goes", RefusalsTest::empty, x -> x.goes(1, 0), Told.STATE, 1);
        leaves("stop", RefusalsTest::empty, x -> x.stop(1, 0), Told.STATE, 1);
        leaves("must", RefusalsTest::empty, x -> x.must(1), Told.STATE, 1);
        leaves("live", RefusalsTest::empty, x -> x.live(0, 0), Told.STATE, 1);
        leaves("makes", RefusalsTest::empty, x -> x.makes(1), Told.STATE, 1);
        leaves("best", RefusalsTest::empty, x -> x.best(0), Told.STATE, 1);
        leaves("far", RefusalsTest::empty, x -> x.far(1), Told.STATE, 1);
        leaves("pairs", RefusalsTest::empty, x -> x.pairs(), Told.STATE, 1);
        leaves("locked", RefusalsTest::empty, x -> x.locked(1, 1, 0), Told.STATE, 1);
        leaves("from", RefusalsTest::empty, x -> x.from(0, 0), Told.STATE, 1);
        leaves("who", RefusalsTest::empty, x -> x.who(0, 0, 0, 1), Told.BAD, 1);
        leaves("image", RefusalsTest::empty, x -> x.image(0), Told.STATE, 1);
        leaves("restore", RefusalsTest::empty, x -> x.restore(0), Told.STATE, 1);
        leaves("ask", RefusalsTest::empty, x -> x.ask(0, 0), Told.BAD, 1);
        leaves("as", RefusalsTest::empty, x -> x.as(0, 0), Told.BAD, 1);
        leaves("drawn", RefusalsTest::empty, x -> x.drawn(1, 1, 0), Told.STATE, 1);
    }
}
