import java.math.BigInteger;

/** Terms, part 3, and promises 17 to 32: what is foretold, and images, each at its edges. */
public final class ForetoldEdgesTest {
    private static final Check CHECK = new Check();
    private static final int[] NO_FIELDS = {-1, 8, Told.LOWEST, Told.HIGHEST};
    private static final int[] NO_WHATS = {-1, 2, Told.LOWEST, Told.HIGHEST};

    /** Six ways of two paths each, from 7 to church 0. */
    private static final String SIX =
        "c0,20;p7,1,1;p1,0,1;p2,0,1;p7,2,1;p7,3,1;p3,0,1;p4,0,1;p7,4,1;p7,5,1;p5,0,1;p6,0,1;p7,6,1;";

    private ForetoldEdgesTest() {
    }

    public static void main(String[] args) {
        noParishAheadOfBad();
        fieldsElseBad();
        whatsElseBad();
        aheadYears();
        aheadBurials();
        lostYears();
        lostRefused();
        goesNone();
        stopFewest();
        stopLeast();
        stopNone();
        mustAlone();
        mustNone();
        liveFewest();
        liveLeast();
        liveNone();
        livePaths();
        makesThatAreNoneNow();
        makesNone();
        bestFirst();
        bestNone();
        fromFields();
        fromNotChurch();
        fromItems();
        fromRefused();
        whoTimes();
        whoNoBurial();
        whoKinds();
        whoByLife();
        whoPlaces();
        whoNoField();
        whoRefused();
        far();
        pairs();
        pairsAlike();
        lockedCases();
        lockedLowest();
        lockedOpenGates();
        drawnYears();
        drawnSeeds();
        drawnBurials();
        drawnOrder();
        imageRefused();
        restoreRefused();
        imageKeeps();
        CHECK.end();
    }

    private static void due(String call, long got, long want) {
        CHECK.due(call, got, want);
    }

    /** "STATE: no PARISH (ahead of BAD)", of all that say so. */
    private static void noParishAheadOfBad() {
        for (int a : new int[] {0, -1, 8, 61, Told.LOWEST, Told.HIGHEST}) {
            CoffinWays x = new CoffinWays();
            due("ahead", x.ahead(a), Told.STATE);
            due("goes", x.goes(a, a), Told.STATE);
            due("stop", x.stop(a, a), Told.STATE);
            due("must", x.must(a), Told.STATE);
            due("live", x.live(a, a), Told.STATE);
            due("makes", x.makes(a), Told.STATE);
            due("best", x.best(a), Told.STATE);
            due("from", x.from(a, a), Told.STATE);
            due("far", x.far(a), Told.STATE);
            due("pairs", x.pairs(), Told.STATE);
            due("locked", x.locked(a, a, a), Told.STATE);
            due("drawn", x.drawn(a, a, a), Told.STATE);
            // These say nothing of it: there is no such path, no such witness.
            due("lost", x.lost(a), Told.BAD);
            due("who", x.who(a, a, a, a), Told.BAD);
        }
        CoffinWays x = new CoffinWays();
        x.row(0, 2, 2);
        due("from a row that is there", x.from(0, 0), Told.STATE);
        due("who by a row that is there", x.who(0, 0, 0, 1), Told.BAD);
    }

    /** "foretold (FIELDS 0 to 7, else BAD)". */
    private static void fieldsElseBad() {
        CoffinWays x = Told.parish("c3,20;p3,0,1;p3,7,1;s0,0;");
        for (int field : NO_FIELDS) {
            due("goes", x.goes(field, 0), Told.BAD);
            due("goes", x.goes(field, 1), Told.BAD);
            due("stop", x.stop(field, 0), Told.BAD);
            due("stop", x.stop(field, 1), Told.BAD);
            due("must", x.must(field), Told.BAD);
            due("makes", x.makes(field), Told.BAD);
            due("far", x.far(field), Told.BAD);
            due("locked", x.locked(field, 0, 0), Told.BAD);
            due("locked", x.locked(field, 0, 1), Told.BAD);
        }
        for (int field = 0; field <= 7; field += 7) {
            due("goes", x.goes(field, 0), 1);
            due("stop", x.stop(field, 0), 1);
            due("must", x.must(field), field == 0 ? 1 : 2);
            due("makes", x.makes(field), 1);
            due("far", x.far(field), 1);
            due("locked", x.locked(field, 1, 0), 9);
        }
    }

    /** "what = 0", "(1)", and nothing else. */
    private static void whatsElseBad() {
        CoffinWays x = Told.parish("c0,20;p0,1,1;s0,0;");
        x.bury(1);
        for (int what : NO_WHATS) {
            for (int field : new int[] {0, 1, 2}) {
                due("goes", x.goes(field, what), Told.BAD);
                due("stop", x.stop(field, what), Told.BAD);
                due("locked", x.locked(field, 1, what), Told.BAD);
            }
            due("live", x.live(1, what), Told.BAD);
            due("best", x.best(what), Told.BAD);
            due("drawn", x.drawn(1, 1, what), Told.BAD);
        }
    }

    /** "WAYS (bits) behind n YEARS (0 to 60)". */
    private static void aheadYears() {
        CoffinWays x = Told.parish("c0,60;p0,1,1;p0,2,1;p0,3,1;n0,1;n1,2;n60,3;");
        x.bury(1);
        x.bury(2);
        x.bury(3);
        due("now", x.ahead(0), 7);
        due("behind one", x.ahead(1), 3);
        due("behind 59", x.ahead(59), 3);
        due("behind 60", x.ahead(60), 1);
        due("behind 61", x.ahead(61), Told.BAD);
        due("ahead of now", x.ahead(-1), Told.BAD);
        due("far", x.ahead(Told.LOWEST), Told.BAD);
        due("far", x.ahead(Told.HIGHEST), Told.BAD);
        x.years(1);
        due("behind 59", x.ahead(59), 1);
        due("behind 60", x.ahead(60), 0);
    }

    /** "no burials but as told". */
    private static void aheadBurials() {
        CoffinWays x = Told.parish("c0,60;p0,1,1;s0,1;");
        due("nothing comes by itself", x.ahead(5), 0);
        x.bury(1);
        due("till year 2 is over", x.ahead(2), 1);
        due("then it is forgotten", x.ahead(3), 0);
        due("and stays so", x.ahead(4), 0);
    }

    /** "LOST: behind how many YEARS (0: it is none now; 60 at most) a PATH is no WAY first; NONE". */
    private static void lostYears() {
        for (int lives = 59; lives <= 62; lives++) {
            CoffinWays x = Told.parish("c0," + lives + ";p0,1,1;p0,2,1;n1,1;");
            due("none now", x.lost(0), 0);
            x.bury(1);
            due("by LIVES " + lives, x.lost(0), lives <= 60 ? lives : Told.NONE);
            due("none now", x.lost(1), 0);
            x.years(1);
            due("a year on, by LIVES " + lives, x.lost(0), lives <= 61 ? lives - 1 : Told.NONE);
        }
        CoffinWays y = Told.parish("c0,60;p0,1,1;p1,2,1;s0,0;m0,0;n58,2;");
        y.bury(2);
        due("as the last of all forgets it", y.lost(1), 3);
        due("as the stranger forgets it", y.lost(0), 3);
        y.years(3);
        due("lost", y.lost(1), 0);
        y.bury(1);
        due("the smith's is lost at once, the stranger's behind three", y.lost(0), 3);
    }

    private static void lostRefused() {
        CoffinWays x = Told.parish(SIX);
        due("the first", x.lost(0), 0);
        due("the last", x.lost(11), 0);
        for (int path : new int[] {-1, 12, Told.LOWEST, Told.HIGHEST}) {
            due("path " + path, x.lost(path), Told.BAD);
        }
        due("no such path", Told.parish("c0,20;p0,1,1;").lost(1), Told.BAD);
    }

    /** "NONE: it does not come through (from CHURCH: 0, none)". */
    private static void goesNone() {
        CoffinWays x = Told.parish("c3,20;p1,2,1;p2,3,9;");
        due("from church", x.goes(3, 0), 0);
        due("from church", x.goes(3, 1), 0);
        due("no path there", x.goes(4, 0), Told.NONE);
        due("no path there", x.goes(4, 1), Told.NONE);
        due("through", x.goes(1, 0), 10);
        due("through", x.goes(1, 1), 3);
        x.lock(1, 1);
        due("locked", x.goes(1, 0), Told.NONE);
        due("locked", x.goes(1, 1), Told.NONE);
        due("from church, locked in", x.goes(3, 0), 0);
        due("from church, locked in", x.goes(3, 1), 0);
    }

    /** "STOP: the fewest GATES more to be locked so that it does not come through: how many". */
    private static void stopFewest() {
        CoffinWays x = Told.parish(SIX);
        due("six", x.stop(7, 0), 6);
        due("two from beside", x.stop(1, 0), 2);
        for (int k = 0; k < 6; k++) {
            x.lock(2 * k, 1);
            due("one fewer", x.stop(7, 0), 5 - k);
        }
        due("none more", x.stop(7, 1), 0);
        due("fewest, though the gate has the highest number",
            Told.parish("c0,20;p7,1,1;p7,2,1;p7,3,1;p1,4,1;p2,4,1;p3,4,1;p4,0,1;").stop(7, 1), 64);
    }

    /** "which (bits), of several the least". */
    private static void stopLeast() {
        due("of 64 sets the least", Told.parish(SIX).stop(7, 1), 1365);
        CoffinWays x = Told.parish("c0,20;p7,1,1;p1,2,1;p2,0,1;");
        due("of three", x.stop(7, 1), 1);
        x.lock(0, 1);
        due("none more", x.stop(7, 1), 0);
        x.lock(0, 0);
        due("from 2", x.stop(2, 1), 4);
        due("from 1", x.stop(1, 1), 2);
        due("of nine pairs", Told.parish("c0,20;p7,1,1;p7,2,1;p1,3,1;p2,4,1;p3,0,1;p4,0,1;").stop(7, 1), 3);
        due("one of each way", Told.parish("c0,20;p7,1,1;p1,0,1;p7,2,1;p2,0,1;").stop(7, 1), 5);
        due("across", Told.parish("c0,20;p1,0,1;p7,2,1;p7,1,1;p2,0,1;").stop(7, 1), 3);
    }

    /** "NONE: from CHURCH". */
    private static void stopNone() {
        CoffinWays x = Told.parish("c3,20;p1,3,1;");
        due("from church", x.stop(3, 0), Told.NONE);
        due("from church", x.stop(3, 1), Told.NONE);
        due("no path there", x.stop(0, 0), 0);
        due("no path there", x.stop(0, 1), 0);
        x.lock(0, 1);
        due("from church, locked in", x.stop(3, 0), Told.NONE);
        due("stopped already", x.stop(1, 0), 0);
        due("stopped already", x.stop(1, 1), 0);
    }

    /** "MUST: open GATES (bits), each of which, locked alone, stops it". */
    private static void mustAlone() {
        CoffinWays x = Told.parish("c0,20;p7,6,1;p6,5,1;p6,4,1;p5,3,1;p4,3,1;p3,0,1;p2,0,1;");
        due("ahead of the fork and behind it", x.must(7), 1 | 32);
        due("on one side", x.must(5), 32);
        x.lock(2, 1);
        due("one side is locked", x.must(7), 1 | 2 | 8 | 32);
        x.lock(2, 0);
        x.lock(3, 1);
        due("the other side is locked", x.must(7), 1 | 4 | 16 | 32);
        due("a longer way round is a way, too",
            Told.parish("c0,20;p7,0,1;p7,6,9;p6,5,9;p5,4,9;p4,3,9;p3,2,9;p2,1,9;p1,0,9;").must(7), 0);
        due("all seven of a row", Told.parish("c0,20;p7,6,9;p6,5,9;p5,4,9;p4,3,9;p3,2,9;p2,1,9;p1,0,9;").must(7), 127);
    }

    /** "(0: it does not come through, from CHURCH)". */
    private static void mustNone() {
        CoffinWays x = Told.parish("c3,20;p1,3,1;p4,5,1;");
        due("from church", x.must(3), 0);
        due("apart", x.must(4), 0);
        due("no path there", x.must(7), 0);
        x.lock(0, 1);
        due("locked", x.must(1), 0);
    }

    /** "LIVE for told PATHS: the fewest WITNESSES who live and SWEAR to all of these together". */
    private static void liveFewest() {
        CoffinWays x = Told.parish("c0,20;p0,1,1;p0,2,1;p0,3,1;p0,4,1;p0,5,1;p0,6,1;n0,1;n0,2;n0,3;n0,4;n0,5;n0,6;");
        for (int field = 1; field <= 6; field++) {
            x.bury(field);
        }
        for (int paths = 0; paths < 64; paths++) {
            due("one for each: how many", x.live(paths, 0), Integer.bitCount(paths));
            due("one for each: which", x.live(paths, 1), paths);
        }
        CoffinWays y = Told.parish("c0,20;p0,1,1;p1,2,1;p2,3,1;n0,1;n0,3;n0,2;n20,0;s0,0;");
        y.bury(3);
        due("one is fewer than two", y.live(7, 0), 1);
        due("one is fewer than two, though a higher one", y.live(7, 1), 16);
        y.years(3);
        due("some to some, others to others", y.live(7, 0), 2);
        due("some to some, others to others", y.live(7, 1), 3);
        due("the dead do not", y.path(0, 4), 1);
    }

    /** "which (bits), of several the least". */
    private static void liveLeast() {
        CoffinWays x = Told.parish("c0,20;p0,1,1;p0,2,1;n0,2;n0,1;n0,1;n0,2;n0,0;n0,0;");
        x.bury(1);
        x.bury(2);
        due("of four", x.live(1, 1), 2);
        due("of four", x.live(2, 1), 1);
        due("one of two is fewest", x.live(3, 1), 16);
        CoffinWays y = Told.parish("c0,20;p0,1,1;p0,2,1;n0,7;n0,2;n0,1;n0,1;n0,2;");
        y.bury(1);
        y.bury(2);
        due("of four pairs", y.live(3, 1), 6);
        due("of four pairs", y.live(3, 0), 2);
    }

    /** "NONE". */
    private static void liveNone() {
        CoffinWays x = Told.parish("c0,20;p0,1,1;p0,2,1;n20,1;n19,1;");
        x.bury(1);
        x.bury(2);
        due("nobody swears to one of these", x.live(3, 0), Told.NONE);
        due("nobody swears to one of these", x.live(3, 1), Told.NONE);
        due("one of 20 lives", x.live(1, 1), 1);
        x.years(1);
        due("one of 21 is dead", x.live(1, 1), 2);
        x.years(1);
        due("both are dead", x.live(1, 1), Told.NONE);
        due("both are dead", x.live(1, 0), Told.NONE);
        due("none of these: nobody", x.live(0, 0), 0);
        due("none of these: nobody", x.live(0, 1), 0);
        due("without witnesses", Told.parish("c0,20;p0,1,1;").live(0, 0), 0);
        due("without witnesses", Told.parish("c0,20;p0,1,1;").live(1, 0), Told.NONE);
    }

    /** PATHS that there are not are no such thing. */
    private static void livePaths() {
        CoffinWays x = Told.parish(SIX + "s0,0;");
        for (int field = 1; field <= 7; field++) {
            x.bury(field);
        }
        due("all that are ways", x.live(x.stand(0), 1), 1);
        due("all twelve: not yet", x.live(4095, 0), Told.NONE);
        due("a thirteenth", x.live(4096, 0), Told.BAD);
        due("a thirteenth", x.live(4097, 1), Told.BAD);
        due("below", x.live(-1, 0), Told.BAD);
        due("far", x.live(Told.LOWEST, 0), Told.BAD);
        due("far", x.live(Told.HIGHEST, 0), Told.BAD);
        CoffinWays y = Told.parish("c0,20;p0,1,1;");
        due("the only one", y.live(1, 0), Told.NONE);
        due("a second", y.live(2, 0), Told.BAD);
        due("bad ahead of NONE", y.live(3, 0), Told.BAD);
    }

    /** "MAKES: how many PATHS would be WAYS then that are none now". */
    private static void makesThatAreNoneNow() {
        CoffinWays x = Told.parish("c0,20;p7,6,1;p6,5,1;p5,4,1;p4,3,1;p3,2,1;p2,1,1;p1,0,1;s0,0;n0,7;");
        due("seven", x.makes(7), 7);
        x.bury(1);
        due("six", x.makes(7), 6);
        x.bury(7);
        due("none", x.makes(7), 0);
        x.years(3);
        due("what was forgotten counts again", x.makes(7), 6);
        due("nobody to see it", Told.parish("c0,20;p0,1,1;n21,1;").makes(1), 0);
        due("nobody who sees it", Told.parish("c0,20;p0,1,1;n20,2;").makes(1), 0);
    }

    /** Promise 23: "NONE: it does not come through, from CHURCH". */
    private static void makesNone() {
        CoffinWays x = Told.parish("c3,20;p1,3,1;s0,0;");
        due("from church", x.makes(3), Told.NONE);
        due("no path there", x.makes(0), Told.NONE);
        x.lock(0, 1);
        due("locked", x.makes(1), Told.NONE);
    }

    /** "BEST: the FIELD from which it makes most, of several the first; how many". */
    private static void bestFirst() {
        CoffinWays x = Told.parish("c3,20;p0,3,1;p1,3,1;p7,6,1;p6,3,1;s0,0;");
        due("the most", x.best(0), 7);
        due("the most", x.best(1), 2);
        x.bury(7);
        due("of two the first", x.best(0), 0);
        due("of two the first", x.best(1), 1);
        x.bury(0);
        due("one is left", x.best(0), 1);
        due("one is left", x.best(1), 1);
        x.bury(1);
        due("none makes any: the first", x.best(0), 0);
        due("none makes any: the first", x.best(1), 0);
        x.lock(0, 1);
        due("the first that comes through", x.best(0), 1);
        due("the first that comes through", x.best(1), 0);
    }

    /** Promise 24: "NONE: from none it comes through". */
    private static void bestNone() {
        CoffinWays x = Told.parish("c3,20;p0,3,1;s0,0;");
        due("from one", x.best(0), 0);
        x.lock(0, 1);
        due("from none but church", x.best(0), Told.NONE);
        due("from none but church", x.best(1), Told.NONE);
        CoffinWays y = Told.parish("c3,20;p0,1,1;s0,0;");
        due("church is apart", y.best(0), Told.NONE);
        due("church is apart", y.best(1), Told.NONE);
        due("only the last field", Told.parish("c3,20;p7,3,1;").best(0), 7);
    }

    /** "FIELDS (bits 0 to 7) from which it would be so". */
    private static void fromFields() {
        CoffinWays x = Told.parish("c3,20;p0,3,1;p7,3,1;s0,0;n0,0;");
        Told.lay(x, 0, 2, 1, 2, 0, 3);
        due("field 0", x.from(0, 0), 1);
        due("field 7", x.from(0, 1), 128);
        due("no burial at all is no answer", x.from(0, 2), 0);
        due("two burials are none", x.from(0, 3), 0);
        x.bury(0);
        due("still so from 0", x.from(0, 0), 1);
        due("not so from 7 alone", x.from(0, 1), 0);
        due("both, with the one before", x.from(0, 3), 128);
        CoffinWays y = Told.parish("c3,20;p0,3,1;p1,3,1;p2,3,1;p4,3,1;p5,3,1;p6,3,1;p7,3,1;n21,0;");
        Told.lay(y, 0, 0, 0, 1);
        due("from all but church", y.from(0, 0), 255 - 8);
        due("from none", y.from(0, 1), 0);
    }

    /** "not CHURCH", and not where it does not come through, even if WAYS stay as they are. */
    private static void fromNotChurch() {
        CoffinWays x = Told.parish("c3,20;p0,3,1;p7,6,1;n0,0;");
        Told.lay(x, 0, 2, 0, 1);
        due("not by none", x.from(0, 0), 0);
        due("only from 0", x.from(0, 1), 1);
        x.bury(0);
        due("not from church, not from apart", x.from(0, 1), 1);
        x.lock(0, 1);
        due("from none", x.from(0, 1), 0);
    }

    /** Items are what they are, with their sign; of a lane too small for the bits none fits. */
    private static void fromItems() {
        CoffinWays x = Told.parish("c0,20;p0,1,1;p0,2,1;p0,3,1;p0,4,1;p0,5,1;p0,6,1;p0,7,1;p1,2,1;p1,3,1;p1,4,1;p1,5,1;p1,6,1;s0,0;n0,1;");
        for (int field = 1; field <= 7; field++) {
            x.lock(field - 1, 1);
        }
        x.lock(6, 0);
        Told.lay(x, 0, 0, 64, -64);
        Told.lay(x, 1, 1, 64, 64 | 4096, 64 - 4096);
        due("a byte", x.from(0, 0), 128);
        due("another byte", x.from(0, 1), 0);
        due("a short", x.from(1, 0), 128);
        due("bits of no path", x.from(1, 1), 0);
        due("bits below", x.from(1, 2), 0);
    }

    /** Promise 25: "BAD: ROW; NULL; PLACE". */
    private static void fromRefused() {
        CoffinWays x = Told.parish(Told.STAR);
        due("missing", x.from(7, 0), Told.NULL);
        due("missing ahead of place", x.from(7, -1), Told.NULL);
        x.row(7, 1, 40);
        due("the last", x.from(7, 39), 0);
        for (int i : new int[] {-1, 40, Told.LOWEST, Told.HIGHEST}) {
            due("place " + i, x.from(7, i), Told.PLACE);
            due("no such row, place " + i, x.from(8, i), Told.BAD);
        }
        x.row(7, 1, 0);
        due("no item", x.from(7, 0), Told.PLACE);
    }

    /** "n (1 to 4) times by turns, one behind another from now on". */
    private static void whoTimes() {
        CoffinWays x = Told.parish(Told.STAR);
        Told.lay(x, 0, 2, 1, 1, 2, 3, 3, 7, 4, 15, 5, 31);
        for (int n = 1; n <= 4; n++) {
            due("n " + n, x.who(0, 0, 0, n), 62);
        }
        for (int n : new int[] {0, -1, 5, Told.LOWEST, Told.HIGHEST}) {
            due("n " + n, x.who(0, 0, 0, n), Told.BAD);
        }
        due("not from the second on", x.who(0, 0, 2, 1), 0);
        x.bury(1);
        due("from the second on", x.who(0, 0, 2, 4), 62);
        due("from now on", x.who(0, 0, 0, 4), 62);
        x.set(0, 9, 30);
        due("the last turn has to fit, too", x.who(0, 0, 2, 4), 0);
        due("the last turn is not asked", x.who(0, 0, 2, 3), 62);
        x.set(0, 3, 2);
        due("the first turn has to fit, too", x.who(0, 0, 2, 3), 0);
    }

    /** "(what does not come through, from CHURCH, is no burial)": but it is told all the same. */
    private static void whoNoBurial() {
        CoffinWays x = Told.parish("c3,20;p0,3,1;p7,6,1;p1,3,1;s0,0;n20,5;");
        x.bury(0);
        Told.lay(x, 0, 2, 3, 1, 7, 1, 5, 1, 1, 5);
        due("church", x.who(0, 0, 0, 1), 62);
        due("apart", x.who(0, 0, 2, 1), 62);
        due("no path there", x.who(0, 0, 4, 1), 62);
        due("a burial at the end", x.who(0, 0, 0, 4), 16 | 32);
        x.lock(2, 1);
        x.set(0, 7, 1);
        due("locked", x.who(0, 0, 0, 4), 62);
        Told.lay(x, 1, 2, 3, 0);
        due("one who saw nothing", x.who(1, 1, 0, 1), 62);
        due("one who saw something", x.who(0, 1, 0, 1), 0);
    }

    /** "KINDS (bits 1 to 5) of it by which it is so": each kind by itself, whatever the witness is. */
    private static void whoKinds() {
        for (char sort : "ncfsm".toCharArray()) {
            CoffinWays x = Told.parish("c0,20;p4,3,1;p3,2,1;p2,1,1;p1,0,1;p3,7,1;" + sort + "0,3;");
            Told.lay(x, 0, 2, 4, 3, 4, 15, 4, 1, 4, 0);
            due(sort + " neighbour, farmer", x.who(0, 0, 0, 1), 2 | 8);
            due(sort + " child, stranger", x.who(0, 0, 2, 1), 4 | 16);
            due(sort + " smith", x.who(0, 0, 4, 1), 32);
            due(sort + " nobody", x.who(0, 0, 6, 1), 0);
            x.lock(4, 1);
            due(sort + " neighbour", x.who(0, 0, 0, 1), 2);
            due(sort + " farmer", x.who(0, 0, 6, 1), 8);
            due(sort + " kind stays", x.kind(0), "?ncfsm".indexOf(sort));
            due(sort + " nothing was seen", x.witness(0, 3), 0);
        }
    }

    /** A kind is taken wholly, so it says how long one lives, too: LIVES and 9 as a child. */
    private static void whoByLife() {
        int[] ages = {20, 21, 29, 30};
        int[] see = {62, 4, 4, 0};
        for (char sort : "ncfsm".toCharArray()) {
            for (int k = 0; k < ages.length; k++) {
                CoffinWays x = Told.parish("c0,20;p0,1,1;" + sort + ages[k] + ",1;");
                Told.lay(x, 0, 2, 1, 1, 1, 0);
                due(sort + " at " + ages[k] + " sees", x.who(0, 0, 0, 1), see[k]);
                due(sort + " at " + ages[k] + " is dead", x.who(0, 0, 2, 1), 62 - see[k]);
            }
        }
    }

    /** Promise 26: "2 n ITEMS of a ROW from i on", "PLACE". */
    private static void whoPlaces() {
        CoffinWays x = Told.parish("c1,20;p0,1,1;n60,7;");
        for (int size = 0; size <= 40; size += size < 8 ? 1 : 8) {
            x.row(0, 0, size);
            for (int n = 1; n <= 4; n++) {
                due("the last place of " + size, x.who(0, 0, size - 2 * n, n), size < 2 * n ? Told.PLACE : 62);
                due("behind the last place of " + size, x.who(0, 0, size - 2 * n + 1, n), Told.PLACE);
                due("the end of " + size, x.who(0, 0, size, n), Told.PLACE);
            }
            for (int i : new int[] {-1, -2, Told.LOWEST, Told.HIGHEST, Told.HIGHEST - 1, Told.HIGHEST - 7}) {
                due("place " + i, x.who(0, 0, i, 4), Told.PLACE);
            }
        }
    }

    /** "then BAD: an ITEM that is no FIELD where it ought to be". */
    private static void whoNoField() {
        CoffinWays x = Told.parish("c1,20;p0,1,1;n60,7;");
        for (int turn = 0; turn < 4; turn++) {
            for (int item : new int[] {-1, 8, Told.LOWEST, Told.HIGHEST}) {
                x.row(0, 2, 8);
                x.set(0, 2 * turn, item);
                due("turn " + turn + " from " + item, x.who(0, 0, 0, 4), Told.BAD);
                due("place ahead of it", x.who(0, 0, 1, 4), Told.PLACE);
                if (turn > 0) {
                    due("not asked", x.who(0, 0, 0, turn), 62);
                }
            }
            x.row(0, 2, 8);
            x.set(0, 2 * turn, 7);
            due("turn " + turn + " from 7", x.who(0, 0, 0, 4), 62);
        }
        Told.lay(x, 0, 2, 0, 9, 0, 8);
        due("where it ought not to be", x.who(0, 0, 0, 2), 0);
    }

    /** Promise 26: "BAD: WITNESS, ROW, n; NULL". */
    private static void whoRefused() {
        CoffinWays x = Told.parish("c0,20;p0,1,1;n0,7;n0,7;n0,7;n0,7;n0,7;n0,7;");
        x.row(0, 1, 2);
        due("the last", x.who(5, 0, 0, 1), 62);
        for (int witness : new int[] {-1, 6, Told.LOWEST, Told.HIGHEST}) {
            due("witness " + witness, x.who(witness, 0, 0, 1), Told.BAD);
            due("bad ahead of null", x.who(witness, 1, 0, 1), Told.BAD);
        }
        due("missing", x.who(0, 1, 0, 1), Told.NULL);
        due("missing ahead of place", x.who(0, 1, -1, 1), Told.NULL);
        due("n ahead of null", x.who(0, 1, 0, 5), Told.BAD);
        due("n ahead of place", x.who(0, 0, 2, 0), Told.BAD);
        due("row ahead of place", x.who(0, 8, -1, 1), Told.BAD);
        due("no witness", Told.parish("c0,20;p0,1,1;").who(0, 0, 0, 1), Told.BAD);
    }

    /** "FAR: how LONG from a FIELD, whether GATES are open or not; NONE". */
    private static void far() {
        CoffinWays x = Told.parish("c0,20;p7,6,9;p6,5,9;p5,4,9;p4,3,9;p3,2,9;p2,1,9;p1,0,9;p6,0,8;");
        x.lock(7, 1);
        due("by the locked one", x.far(7), 17);
        due("goes by others", x.goes(7, 0), 63);
        x.lock(0, 1);
        due("all the same", x.far(7), 17);
        due("does not come through", x.goes(7, 0), Told.NONE);
        due("church", x.far(0), 0);
        CoffinWays y = Told.parish("c0,20;p0,1,1;p2,3,1;");
        due("apart", y.far(2), Told.NONE);
        due("no path there", y.far(7), Told.NONE);
        due("church apart", Told.parish("c7,20;p0,1,1;").far(7), 0);
    }

    /** "PAIRS: pairs of WITNESSES who live and SWEAR (to one at least)". */
    private static void pairs() {
        for (int n = 0; n <= 6; n++) {
            CoffinWays x = Told.parish("c0,20;p0,1,1;" + "n20,1;".repeat(n));
            due("to none", x.pairs(), 0);
            x.bury(1);
            due("all of " + n, x.pairs(), n * (n - 1) / 2);
            if (n > 0) {
                x.years(1);
                due("all are dead", x.pairs(), 0);
                x.follow(0);
                due("one came who saw nothing", x.pairs(), 0);
            }
        }
        CoffinWays y = Told.parish("c0,20;p0,1,1;n20,1;n19,1;n19,1;");
        y.bury(1);
        due("three", y.pairs(), 3);
        y.years(1);
        due("two live", y.pairs(), 1);
    }

    /** "the very same PATHS". */
    private static void pairsAlike() {
        CoffinWays x = Told.parish("c0,20;p0,1,1;p0,2,1;n0,1;n0,1;n0,2;n0,0;");
        x.bury(1);
        due("three to the first", x.pairs(), 3);
        x.bury(2);
        due("one to both, one to the second", x.pairs(), 1);
    }

    private static void fraction(CoffinWays x, int field, int p, long above, long below) {
        due("above, from " + field + " by " + p, x.locked(field, p, 0), above);
        due("below, from " + field + " by " + p, x.locked(field, p, 1), below);
    }

    /** "LOCKED by p of 10 (0 to 10)". */
    private static void lockedCases() {
        CoffinWays x = Told.parish("c0,20;p0,1,1;");
        long[] above = {1, 9, 4, 7, 3, 1, 2, 3, 1, 1, 0};
        long[] below = {1, 10, 5, 10, 5, 2, 5, 10, 5, 10, 1};
        for (int p = 0; p <= 10; p++) {
            fraction(x, 1, p, above[p], below[p]);
            fraction(x, 0, p, 1, 1);
            fraction(x, 7, p, 0, 1);
        }
        for (int p : new int[] {-1, 11, Told.LOWEST, Told.HIGHEST}) {
            for (int field : new int[] {0, 1, 7}) {
                due("p " + p, x.locked(field, p, 0), Told.BAD);
                due("p " + p, x.locked(field, p, 1), Told.BAD);
            }
        }
    }

    /** "fractions, told as two numbers in lowest terms (0 is 0 by 1)": twelve gates are the most. */
    private static void lockedLowest() {
        CoffinWays x = Told.parish(SIX);
        for (int p = 0; p <= 10; p++) {
            // Each of the six ways is open in (10 - p) squared of 100 cases.
            BigInteger shut = BigInteger.valueOf(100 - (10 - p) * (10 - p)).pow(6);
            BigInteger all = BigInteger.TEN.pow(12);
            BigInteger through = all.subtract(shut);
            BigInteger common = through.gcd(all);
            fraction(x, 7, p, through.divide(common).longValueExact(), all.divide(common).longValueExact());
        }
        fraction(x, 7, 3, 982403712199L, 1000000000000L);
        fraction(x, 7, 5, 3367, 4096);
        fraction(x, 7, 9, 58519850599L, 1000000000000L);
    }

    /** "each open GATE is locked in p of 10 cases, apart": a locked one stays so. */
    private static void lockedOpenGates() {
        CoffinWays x = Told.parish("c0,20;p7,1,1;p1,0,1;p7,2,1;p2,0,1;p5,6,1;");
        fraction(x, 7, 5, 7, 16);
        fraction(x, 7, 1, 9639, 10000);
        x.lock(0, 1);
        fraction(x, 7, 1, 81, 100);
        fraction(x, 7, 0, 1, 1);
        x.lock(3, 1);
        fraction(x, 7, 0, 0, 1);
        fraction(x, 7, 1, 0, 1);
        fraction(x, 1, 3, 7, 10);
        fraction(x, 0, 10, 1, 1);
    }

    private static int[] drawnFields(int n, int seed) {
        int[] fields = new int[n];
        BigInteger x = BigInteger.valueOf(seed);
        for (int k = 0; k < n; k++) {
            x = x.multiply(BigInteger.valueOf(16807)).mod(BigInteger.valueOf(2147483647));
            fields[k] = x.mod(BigInteger.valueOf(8)).intValue();
        }
        return fields;
    }

    /** "YEARS of n (0 to 60)": by neighbours who live as long, each way is one that was drawn. */
    private static void drawnYears() {
        CoffinWays x = Told.parish("c0,90;p0,1,1;p0,2,1;p0,3,1;p0,4,1;p0,5,1;p0,6,1;n0,0;");
        for (int seed : new int[] {1, 2, 4711, 999999}) {
            int ways = 0;
            int burials = 0;
            int[] fields = drawnFields(60, seed);
            for (int n = 0; n <= 60; n++) {
                due("ways of " + n + " by " + seed, x.drawn(n, seed, 0), ways);
                due("burials of " + n + " by " + seed, x.drawn(n, seed, 1), burials);
                if (n < 60 && fields[n] >= 1 && fields[n] <= 6) {
                    ways |= 1 << fields[n] - 1;
                    burials++;
                }
            }
        }
        for (int n : new int[] {-1, 61, Told.LOWEST, Told.HIGHEST}) {
            due("n " + n, x.drawn(n, 1, 0), Told.BAD);
            due("n " + n, x.drawn(n, 1, 1), Told.BAD);
        }
        due("nothing changes", x.stand(0), 0);
        x.bury(6);
        due("none: as it is now", x.drawn(0, 1, 0), 32);
        due("none: no burials", x.drawn(0, 1, 1), 0);
    }

    /** "a SEED (1 to 999999)". */
    private static void drawnSeeds() {
        CoffinWays x = Told.parish("c0,90;p0,1,1;n0,0;");
        due("seed 1", x.drawn(2, 1, 1), 1);
        due("seed 999999", x.drawn(0, 999999, 1), 0);
        for (int seed : new int[] {0, -1, 1000000, Told.LOWEST, Told.HIGHEST}) {
            due("seed " + seed, x.drawn(1, seed, 0), Told.BAD);
            due("seed " + seed, x.drawn(0, seed, 1), Told.BAD);
        }
    }

    /** "(none, if it does not come through, or from CHURCH)": seed 1 draws 7, 1, 1, 2, 2. */
    private static void drawnBurials() {
        due("all but 7", Told.parish("c0,90;p0,1,1;p0,2,1;").drawn(5, 1, 1), 4);
        due("from church", Told.parish("c1,90;p1,7,1;p1,2,1;").drawn(5, 1, 1), 3);
        CoffinWays x = Told.parish("c0,90;p0,1,1;p0,2,1;p0,7,1;n0,0;");
        due("all", x.drawn(5, 1, 1), 5);
        due("all", x.drawn(5, 1, 0), 7);
        x.lock(0, 1);
        due("locked", x.drawn(5, 1, 1), 3);
        due("locked", x.drawn(5, 1, 0), 6);
    }

    /** "a burial; then the YEAR": who dies in it saw the burial, and is dead behind it. */
    private static void drawnOrder() {
        CoffinWays x = Told.parish("c0,20;p0,7,1;p0,1,1;n20,0;");
        due("dead behind the year", x.drawn(1, 1, 0), 0);
        due("a burial all the same", x.drawn(1, 1, 1), 1);
        CoffinWays y = Told.parish("c0,20;p0,7,1;p0,1,1;n19,0;s0,0;");
        due("both saw it", y.drawn(1, 1, 0), 1);
        due("the neighbour is dead, the stranger swears", y.drawn(2, 1, 0), 3);
        due("the stranger forgot what was in years 0 to 2", y.drawn(3, 1, 0), 0);
        y.years(2);
        due("years go on from now", y.drawn(1, 1, 0), 0);
    }

    /** Promise 31: "An IMAGE (0, 1) is kept: 1. BAD; STATE: no PARISH". */
    private static void imageRefused() {
        CoffinWays none = new CoffinWays();
        CoffinWays x = Told.parish("c0,20;p0,1,1;");
        for (int k : new int[] {-1, 2, Told.LOWEST, Told.HIGHEST}) {
            due("image " + k, x.image(k), Told.BAD);
            due("bad ahead of state", none.image(k), Told.BAD);
        }
        for (int k = 0; k <= 1; k++) {
            due("no parish", none.image(k), Told.STATE);
            due("image", x.image(k), 1);
            due("again", x.image(k), 1);
        }
        due("none was kept", none.restore(0), Told.STATE);
    }

    /** Promise 32: "BAD; STATE: none was kept". */
    private static void restoreRefused() {
        for (int kept = 0; kept <= 1; kept++) {
            CoffinWays x = Told.parish("c0,20;p0,1,1;");
            for (int k : new int[] {-1, 2, Told.LOWEST, Told.HIGHEST}) {
                due("restore " + k, x.restore(k), Told.BAD);
            }
            due("none was kept", x.restore(kept), Told.STATE);
            x.image(kept);
            due("kept", x.restore(kept), 1);
            due("the other was not", x.restore(1 - kept), Told.STATE);
        }
    }

    /** "The PARISH is as an IMAGE kept it (no ACT can be undone then)"; rows, tape, faults are none of it. */
    private static void imageKeeps() {
        CoffinWays x = Told.parish("c0,20;p0,1,1;p1,2,1;n20,1;s0,0;");
        x.bury(2);
        x.lock(1, 1);
        x.image(0);
        x.image(1);
        due("acts stay", x.count(6), 2);
        x.years(1);
        x.row(3, 1, 4);
        x.feed('c');
        due("restored", x.restore(1), 1);
        due("no act", x.count(6), 0);
        due("undo", x.undo(), Told.STATE);
        due("rows stay", x.count(0), 1);
        due("the tape stays", x.count(7), 1);
        due("year", x.count(3), 0);
        due("gates", x.stand(1), 2);
        due("who lives", x.stand(2), 3);
        due("ways", x.stand(0), 3);
        due("saw", x.witness(0, 3), 3);
        x.lock(1, 0);
        due("acts begin anew", x.count(6), 1);
        due("undo", x.undo(), 0);
        due("gates", x.stand(1), 2);
        due("the tape goes on", Told.tell(x, "7,90;p7,6,1;"), 1);
        due("an image outlives its parish", x.restore(0), 1);
        due("lives", x.count(5), 20);
        due("paths", x.count(1), 2);
        due("church", x.stand(3), 0);
        x.lock(0, 1);
        x.image(0);
        due("undone", x.undo(), 0);
        due("open again", x.stand(1), 2);
        due("what is undone stays in the image", x.restore(0), 1);
        due("locked", x.stand(1), 3);
        due("the other image stayed", x.restore(1), 1);
        due("as it was", x.stand(1), 2);
    }
}
