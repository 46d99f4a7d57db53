/** Each promise of the document by hand: ordinary calls, the edges it names, wrong inputs. */
public final class PromisesTest {
    private static final int NONE = -1000000, BAD = -1000001, STATE = -1000002, FULL = -1000003;
    private static final int NULL = -1000011, PLACE = -1000012, KIND = -1000013, SIZE = -1000014, STORE = -1000015;

    /** Paths 0: 0-1, 1: 1-2, 2: 0-2, 3: 2-3, 4: 1-4, 5: 4-3, 6: 0-5; the church is field 0, 6 and 7 lie apart. */
    private static final String VALLEY =
        "c0,40;p0,1,2;p1,2,1;p0,2,3;p2,3,4;p1,4,9;p4,3,1;p0,5,6;n30,1;c9,3;f38,2;s20,7;m12,5;n0,0;";

    private static final Check CHECK = new Check();
    private static final int LOWEST = Integer.MIN_VALUE, HIGHEST = Integer.MAX_VALUE;

    private PromisesTest() {
    }

    public static void main(String[] args) {
        newObject();
        row();
        set();
        copy();
        drop();
        feed();
        parish();
        faults();
        room();
        undo();
        bury();
        kindsSee();
        years();
        forgetting();
        lock();
        follow();
        witness();
        path();
        stand();
        ahead();
        lost();
        goes();
        stop();
        must();
        live();
        makes();
        best();
        from();
        who();
        whoByLife();
        far();
        pairs();
        locked();
        drawn();
        images();
        kind();
        as();
        ask();
        count();
        status();
        CHECK.end();
    }

    private static void due(String call, long got, long want) {
        CHECK.due(call, got, want);
    }

    private static int tell(CoffinWays x, String text) {
        for (int i = 0; i < text.length(); i++) {
            due("feed of " + text, x.feed(text.charAt(i)), x.count(7));
        }
        return x.parish();
    }

    private static CoffinWays told(String text) {
        CoffinWays x = new CoffinWays();
        tell(x, text);
        return x;
    }

    private static CoffinWays valley() {
        return told(VALLEY);
    }

    /** Promise 1. */
    private static void newObject() {
        CoffinWays x = new CoffinWays();
        due("1 NONE", CoffinWays.NONE, NONE);
        due("1 BAD", CoffinWays.BAD, BAD);
        due("1 STATE", CoffinWays.STATE, STATE);
        due("1 FULL", CoffinWays.FULL, FULL);
        for (int what = 0; what < 8; what++) {
            due("1 count", x.count(what), 0);
        }
        due("1 stand", x.stand(0), STATE);
        due("1 fault", x.fault(), 0);
        due("1 status", x.status(), 0);
        due("1 undo", x.undo(), STATE);
        due("1 restore", x.restore(0), STATE);
        due("1 trace", x.trace(0), NONE);
        due("1 rows are missing", x.drop(7), NULL);
    }

    /** Promise 2. */
    private static void row() {
        CoffinWays x = new CoffinWays();
        due("2 least", x.row(0, 0, 0), 0);
        due("2 most", x.row(7, 2, 40), 40);
        due("2 count", x.count(0), 2);
        due("2 row below", x.row(-1, 0, 1), BAD);
        due("2 row above", x.row(8, 0, 1), BAD);
        due("2 lane below", x.row(0, -1, 1), BAD);
        due("2 lane above", x.row(0, 3, 1), BAD);
        due("2 n above", x.row(0, 0, 41), BAD);
        due("2 n far above", x.row(0, 0, HIGHEST), BAD);
        due("2 size", x.row(0, 0, -1), SIZE);
        due("2 size", x.row(0, 0, LOWEST), SIZE);
        due("2 bad ahead of size", x.row(8, 0, -1), BAD);
        due("2 bad lane ahead of size", x.row(0, 3, -1), BAD);
        due("2 size changes nothing", x.drop(0), 0);
        x.row(1, 2, 3);
        x.set(1, 0, 9);
        x.set(1, 2, 9);
        due("2 in place", x.row(1, 2, 4), 4);
        tell(x, "c0,40;p0,1,1;n41,1;");
        due("2 items are 0 then", x.from(1, 0), 2);
        due("2 items are 0 then", x.from(1, 2), 2);
        due("2 another lane", x.row(1, 0, 4), 4);
        due("2 the lane is new", x.set(1, 0, 200), -56);
    }

    /** Promise 3. */
    private static void set() {
        CoffinWays x = new CoffinWays();
        due("3 missing", x.set(0, 0, 1), NULL);
        due("3 missing ahead of place", x.set(0, -1, 1), NULL);
        x.row(0, 0, 2);
        x.row(1, 1, 2);
        x.row(2, 2, 2);
        due("3 byte", x.set(0, 0, 127), 127);
        due("3 byte", x.set(0, 0, 128), -128);
        due("3 byte", x.set(0, 1, 0x12345), 0x45);
        due("3 byte", x.set(0, 1, -129), 127);
        due("3 short", x.set(1, 0, 32767), 32767);
        due("3 short", x.set(1, 0, 32768), -32768);
        due("3 short", x.set(1, 1, 0x123456), 0x3456);
        due("3 int", x.set(2, 0, HIGHEST), HIGHEST);
        due("3 int", x.set(2, 1, LOWEST), LOWEST);
        due("3 place", x.set(0, 2, 1), PLACE);
        due("3 place", x.set(0, -1, 1), PLACE);
        due("3 place", x.set(0, HIGHEST, 1), PLACE);
        due("3 place", x.set(0, LOWEST, 1), PLACE);
        due("3 row", x.set(8, 0, 1), BAD);
        due("3 row", x.set(-1, 0, 1), BAD);
        x.row(3, 2, 0);
        due("3 no place at all", x.set(3, 0, 1), PLACE);
    }

    /** Promise 4. */
    private static void copy() {
        CoffinWays x = told("c0,40;p0,1,1;p0,2,1;p0,3,1;p0,4,1;p0,5,1;p0,6,1;p0,7,1;s0,0;");
        x.row(0, 2, 5);
        x.row(1, 2, 3);
        x.row(2, 1, 5);
        for (int i = 0; i < 5; i++) {
            x.set(0, i, i + 1);
        }
        due("4 row a", x.copy(-1, 0, 0, 0, 1), BAD);
        due("4 row b", x.copy(0, 0, 8, 0, 1), BAD);
        due("4 bad ahead of null", x.copy(7, 0, 8, 0, 1), BAD);
        due("4 missing a", x.copy(7, 0, 0, 0, 1), NULL);
        due("4 missing b", x.copy(0, 0, 7, 0, 1), NULL);
        due("4 null ahead of place", x.copy(0, -1, 7, 0, 1), NULL);
        due("4 store", x.copy(0, 0, 2, 0, 1), STORE);
        due("4 store of none", x.copy(0, 0, 2, 0, 0), STORE);
        due("4 store ahead of place", x.copy(0, -1, 2, 0, 1), STORE);
        due("4 i", x.copy(0, -1, 1, 0, 1), PLACE);
        due("4 j", x.copy(0, 0, 1, -1, 1), PLACE);
        due("4 n", x.copy(0, 0, 1, 0, -1), PLACE);
        due("4 end of a", x.copy(1, 2, 0, 0, 2), PLACE);
        due("4 end of b", x.copy(0, 0, 1, 0, 4), PLACE);
        due("4 i beyond", x.copy(0, 6, 1, 0, 0), PLACE);
        due("4 wraps", x.copy(0, HIGHEST, 1, 0, HIGHEST), PLACE);
        due("4 wraps", x.copy(0, 1, 1, 1, HIGHEST), PLACE);
        due("4 none at the ends", x.copy(0, 5, 1, 3, 0), 0);
        due("4 upward in itself", x.copy(0, 0, 0, 1, 4), 4);
        due("4 items", items(x, 0, 5), 11234);
        due("4 downward in itself", x.copy(0, 1, 0, 0, 4), 4);
        due("4 items", items(x, 0, 5), 12344);
        due("4 to another", x.copy(0, 1, 1, 1, 2), 2);
        due("4 items", items(x, 1, 3), 23);
    }

    /** The items of a row (0 to 7 each) as figures; no call reads one, so a witness at church tells where it was carried from. */
    private static int items(CoffinWays x, int row, int n) {
        int told = 0;
        x.row(6, 2, 2);
        for (int i = 0; i < n; i++) {
            x.copy(row, i, 6, 0, 1);
            int figure = 0;
            for (int field = 1; field < 8; field++) {
                x.set(6, 1, 1 << field - 1);
                figure = x.who(0, 6, 0, 1) == 62 ? field : figure;
            }
            told = told * 10 + figure;
        }
        return told;
    }

    /** Promise 5. */
    private static void drop() {
        CoffinWays x = new CoffinWays();
        x.row(3, 1, 7);
        due("5 items", x.drop(3), 7);
        due("5 missing then", x.drop(3), NULL);
        due("5 set", x.set(3, 0, 0), NULL);
        due("5 count", x.count(0), 0);
        due("5 row", x.drop(-1), BAD);
        due("5 row", x.drop(8), BAD);
        due("5 again", x.row(3, 1, 2), 2);
    }

    /** Promise 6. */
    private static void feed() {
        CoffinWays x = new CoffinWays();
        due("6 below", x.feed(-1), BAD);
        due("6 above", x.feed(256), BAD);
        due("6 least", x.feed(0), 1);
        due("6 most", x.feed(255), 2);
        for (int n = 3; n <= 140; n++) {
            due("6 feed", x.feed('x'), n);
        }
        due("6 full", x.feed('x'), FULL);
        due("6 bad ahead of full", x.feed(256), BAD);
        due("6 count", x.count(7), 140);
        due("6 parish", x.parish(), -1000100);
        due("6 empty then", x.feed('c'), 1);
    }

    /** Promise 7. */
    private static void parish() {
        CoffinWays x = new CoffinWays();
        due("7 paths", tell(x, VALLEY), 7);
        due("7 the tape is empty", x.count(7), 0);
        x.bury(3);
        x.years(2);
        x.lock(0, 1);
        due("7 a fault", tell(x, "c0,40;p0,1"), -1000110);
        due("7 the tape is empty", x.count(7), 0);
        due("7 all stays: paths", x.count(1), 7);
        due("7 all stays: year", x.count(3), 2);
        due("7 all stays: acts", x.count(6), 4);
        due("7 all stays: ways", x.stand(0), 12);
        due("7 all stays: gates", x.stand(1), 1);
        due("7 what is foretold leaves no mark", x.drawn(1, 4, 1), 1);
        due("7 another one", tell(x, "c07,90;p07,00,09;m60,07;"), 1);
        due("7 year", x.count(3), 0);
        due("7 acts", x.count(6), 0);
        due("7 undo", x.undo(), STATE);
        due("7 ways", x.stand(0), 0);
        due("7 gates", x.stand(1), 0);
        due("7 church", x.stand(3), 7);
        due("7 lives", x.count(5), 90);
        due("7 path a", x.path(0, 0), 7);
        due("7 path b", x.path(0, 1), 0);
        due("7 path long", x.path(0, 2), 9);
        due("7 age", x.witness(0, 0), 60);
        due("7 home", x.witness(0, 1), 7);
        due("7 nobody saw anything", x.witness(0, 3), 0);
        due("7 no witness", tell(x, "c0,20;p0,1,1;"), 1);
        due("7 witnesses", x.count(2), 0);
    }

    /** Promises 7 and 8. */
    private static void faults() {
        fault("", 0, 1);
        fault("p", 0, 1);
        fault("C", 0, 1);
        fault(" c0,20;", 0, 1);
        fault("c,", 1, 1);
        fault("c8", 1, 2);
        fault("c10,20;", 1, 2);
        fault("c100,20;", 1, 1);
        fault("c0000,20;", 1, 1);
        fault("c0", 2, 1);
        fault("c0;", 2, 1);
        fault("c0 ,", 2, 1);
        fault("c0,", 3, 1);
        fault("c0,,", 3, 1);
        fault("c0,19;", 3, 2);
        fault("c0,91;", 3, 2);
        fault("c0,020;", 3, 1);
        fault("c0,20,", 5, 1);
        fault("c0,20;", 6, 1);
        fault("c0,20;n1,1;", 6, 1);
        fault("c0,20;p8,1,1;", 7, 2);
        fault("c0,20;pp", 7, 1);
        fault("c0,20;p0;", 8, 1);
        fault("c0,20;p0,0,1;", 9, 2);
        fault("c0,20;p0,8,1;", 9, 2);
        fault("c0,20;p0,a,1;", 9, 1);
        fault("c0,20;p0,1;", 10, 1);
        fault("c0,20;p0,1,0;", 11, 2);
        fault("c0,20;p0,1,10;", 11, 2);
        fault("c0,20;p0,1,1,", 12, 1);
        fault("c0,20;p0,1,1;p0,1,2;", 16, 2);
        fault("c0,20;p0,1,1;p1,0,2;", 16, 2);
        fault("c0,20;p0,1,1;x", 13, 1);
        fault("c0,20;p0,1,1;1", 13, 1);
        fault("c0,20;p0,1,1;;", 13, 1);
        fault("c0,20;p0,1,1;n", 14, 1);
        fault("c0,20;p0,1,1;n61,0;", 14, 2);
        fault("c0,20;p0,1,1;n60;", 16, 1);
        fault("c0,20;p0,1,1;n60,8;", 17, 2);
        fault("c0,20;p0,1,1;n60,7", 18, 1);
        fault("c0,20;p0,1,1;n60,7,", 18, 1);
        fault("c0,20;p0,1,1;n60,7;p1,2,1;", 19, 1);
        fault("c0,20;p0,1,1;n60,7;\n", 19, 1);
        fault("c0,20;p0,1,1;n60,7;\u00e9", 19, 1);
        CoffinWays x = new CoffinWays();
        tell(x, "c8");
        tell(x, "c0,20;p0,1,1;");
        due("8 the latest stays", x.fault(), 2);
        tell(x, "c");
        due("8 the latest", x.fault(), 1);
    }

    private static void fault(String text, int place, int number) {
        CoffinWays x = new CoffinWays();
        due("7 parish of " + text, tell(x, text), -1000100 - place);
        due("8 fault of " + text, x.fault(), number);
        due("7 nothing read of " + text, x.count(1), 0);
    }

    /** The room of promise 7: 12 paths, 6 witnesses. */
    private static void room() {
        String paths = "c0,20;p0,1,1;p0,2,1;p0,3,1;p0,4,1;p0,5,1;p0,6,1;p0,7,1;p1,2,1;p1,3,1;p1,4,1;p1,5,1;p1,6,1;";
        String witnesses = "n0,0;c0,0;f0,0;s0,0;m0,0;n1,1;";
        CoffinWays x = new CoffinWays();
        due("7 twelve paths", tell(x, paths + witnesses), 12);
        due("7 six witnesses", x.count(2), 6);
        due("7 a path more", tell(x, paths + "p1,7,1;"), -1000100 - paths.length());
        due("8 a path more", x.fault(), 3);
        due("7 a path more, told wrong", tell(x, paths + "p9"), -1000100 - paths.length());
        due("8 a path more, told wrong", x.fault(), 3);
        int there = (paths + witnesses).length();
        for (String sort : new String[] {"n", "c", "f", "s", "m"}) {
            due("7 a witness more", tell(x, paths + witnesses + sort + "0,0;"), -1000100 - there);
            due("8 a witness more", x.fault(), 3);
        }
        due("7 a path behind witnesses", tell(x, paths + witnesses + "p"), -1000100 - there);
        due("8 a path behind witnesses", x.fault(), 1);
        due("7 the one before stands", x.count(1), 12);
    }

    /** Promise 9. */
    private static void undo() {
        CoffinWays x = told("c0,20;p0,1,1;p1,2,1;n19,1;s0,5;m0,6;");
        due("9 none", x.undo(), STATE);
        x.bury(2);
        x.years(3);
        x.lock(0, 1);
        x.follow(0);
        due("9 acts", x.count(6), 6);
        due("9 followed", x.witness(0, 0), 0);
        due("9 undo follow", x.undo(), 5);
        due("9 dead again", x.witness(0, 0), 21);
        due("9 undo lock", x.undo(), 4);
        due("9 open again", x.stand(1), 0);
        due("9 undo a year", x.undo(), 3);
        due("9 the stranger knows again", x.witness(1, 3), 3);
        due("9 year", x.count(3), 2);
        due("9 dead yet", x.witness(0, 2), 0);
        due("9 undo a year", x.undo(), 2);
        due("9 alive again", x.witness(0, 3), 3);
        due("9 undo a year", x.undo(), 1);
        due("9 the smith knows again", x.witness(2, 3), 2);
        due("9 undo a burial", x.undo(), 0);
        due("9 no ways", x.stand(0), 0);
        due("9 none", x.undo(), STATE);
        x.bury(1);
        x.years(24);
        due("9 at most 24", x.count(6), 24);
        for (int left = 23; left >= 0; left--) {
            due("9 undo", x.undo(), left);
        }
        due("9 none", x.undo(), STATE);
        due("9 the burial is not undone", x.stand(0), 1);
        due("9 year", x.count(3), 0);
        x.lock(1, 1);
        x.years(23);
        x.years(1);
        due("9 the oldest is forgotten", x.count(6), 24);
        for (int left = 23; left >= 0; left--) {
            x.undo();
        }
        due("9 the lock stays", x.stand(1), 2);
    }

    /** Promise 10. */
    private static void bury() {
        CoffinWays x = valley();
        due("10 no parish", new CoffinWays().bury(8), STATE);
        due("10 below", x.bury(-1), BAD);
        due("10 above", x.bury(8), BAD);
        due("10 from church", x.bury(0), STATE);
        due("10 not through", x.bury(7), STATE);
        due("10 no act", x.count(6), 0);
        due("10 by 3-2-0", x.bury(3), 12);
        due("10 an act", x.count(6), 1);
        due("10 by 5-0", x.bury(5), 76);
        due("10 again", x.bury(5), 76);
        due("10 acts", x.count(6), 3);
        x.lock(2, 1);
        due("10 by 3-2-1-0", x.bury(3), 12 | 64 | 8 | 2 | 1);
        CoffinWays y = told("c0,20;p0,1,1;p1,2,1;n60,1;");
        due("10 nobody lives", y.bury(2), 0);
        due("10 an act all the same", y.count(6), 1);
    }

    /** What each kind sees: promises 10 and 14. */
    private static void kindsSee() {
        CoffinWays x = valley();
        x.bury(3);
        due("14 neighbour elsewhere", x.witness(0, 3), 0);
        due("14 child at the path", x.witness(1, 3), 12);
        due("14 farmer between", x.witness(2, 3), 12);
        due("14 stranger", x.witness(3, 3), 12);
        due("14 smith: the first", x.witness(4, 3), 8);
        due("14 neighbour at church", x.witness(5, 3), 4);
        x.bury(5);
        due("14 child elsewhere", x.witness(1, 3), 12);
        due("14 farmer elsewhere", x.witness(2, 3), 12);
        x.lock(1, 1);
        x.undo();
        CoffinWays y = told("c0,40;p0,1,1;p1,2,1;p2,3,1;p1,5,1;c0,0;c0,7;f0,1;f0,2;n0,1;m0,1;");
        y.lock(3, 1);
        due("10 ways", y.bury(3), 7);
        due("14 child at church: all", y.witness(0, 3), 7);
        due("14 child nowhere: none", y.witness(1, 3), 0);
        due("14 farmer with a locked gate at home, beside the route", y.witness(2, 3), 0);
        due("14 farmer with a locked gate elsewhere", y.witness(3, 3), 6);
        due("14 neighbour does not mind", y.witness(4, 3), 3);
        due("14 smith: where it is carried from", y.witness(5, 3), 4);
    }

    /** Promise 11. */
    private static void years() {
        CoffinWays x = valley();
        due("11 no parish", new CoffinWays().years(0), STATE);
        due("11 none", x.years(0), BAD);
        due("11 below", x.years(-1), BAD);
        due("11 above", x.years(25), BAD);
        due("11 far above", x.years(HIGHEST), BAD);
        due("11 two: the farmer is 40", x.years(2), 63);
        due("11 acts", x.count(6), 2);
        due("11 three: he is 41", x.years(1), 59);
        due("11 eleven", x.years(8), 58);
        due("11 a dead one's age stays", x.witness(2, 0), 41);
        due("11 a living one's grows", x.witness(1, 0), 20);
        due("11 year", x.count(3), 11);
        x.years(24);
        due("11 a child lives longer", x.years(5), 34);
        due("11 a child is 49", x.witness(1, 0), 49);
        due("11 and dies", x.years(1), 0);
        due("11 neighbour from 0", x.witness(5, 0), 41);
        CoffinWays y = told("c0,20;p0,1,1;");
        for (int k = 0; k < 41; k++) {
            y.years(24);
        }
        due("11 year", y.count(3), 984);
        due("11 beyond 999", y.years(16), FULL);
        due("11 bad ahead of full", y.years(25), BAD);
        due("11 up to 999", y.years(15), 0);
        due("11 year", y.count(3), 999);
        due("11 full", y.years(1), FULL);
        due("11 foretold all the same", y.ahead(60), 0);
    }

    /** What strangers and smiths forget: promise 11. */
    private static void forgetting() {
        CoffinWays x = told("c0,40;p0,1,1;p1,2,1;p2,3,1;s0,0;m0,0;n0,1;");
        x.bury(3);
        x.bury(2);
        x.bury(1);
        due("11 stranger", x.witness(0, 3), 7);
        due("11 smith", x.witness(1, 3), 7);
        x.years(1);
        due("11 year 0: stranger", x.witness(0, 3), 7);
        due("11 year 0: smith", x.witness(1, 3), 6);
        x.years(1);
        due("11 year 1: stranger", x.witness(0, 3), 7);
        due("11 year 1: smith", x.witness(1, 3), 4);
        x.years(1);
        due("11 year 2: stranger", x.witness(0, 3), 0);
        due("11 year 2: smith", x.witness(1, 3), 0);
        due("11 neighbour", x.witness(2, 3), 3);
        x.bury(3);
        x.years(2);
        due("11 year 4: stranger", x.witness(0, 3), 7);
        x.years(1);
        due("11 year 5: stranger", x.witness(0, 3), 0);
    }

    /** Promise 12. */
    private static void lock() {
        CoffinWays x = valley();
        due("12 no parish", new CoffinWays().lock(0, 1), BAD);
        due("12 path below", x.lock(-1, 1), BAD);
        due("12 path above", x.lock(7, 1), BAD);
        due("12 on below", x.lock(0, -1), BAD);
        due("12 on above", x.lock(0, 2), BAD);
        due("12 open already", x.lock(0, 0), STATE);
        due("12 lock", x.lock(0, 1), 1);
        due("12 locked already", x.lock(0, 1), STATE);
        due("12 lock", x.lock(6, 1), 65);
        due("12 open", x.lock(0, 0), 64);
        due("12 acts", x.count(6), 3);
        due("12 open: none is locked", x.lock(6, 0), 0);
        due("12 far off", x.lock(32, 1), BAD);
    }

    /** Promise 13. */
    private static void follow() {
        CoffinWays x = told("c0,20;p0,1,1;n20,1;s0,2;");
        due("13 no parish", new CoffinWays().follow(0), BAD);
        due("13 below", x.follow(-1), BAD);
        due("13 above", x.follow(2), BAD);
        x.bury(1);
        due("13 it lives", x.follow(0), STATE);
        x.years(1);
        due("13 dead", x.witness(0, 2), 0);
        due("13 followed", x.follow(0), 3);
        due("13 age", x.witness(0, 0), 0);
        due("13 home", x.witness(0, 1), 1);
        due("13 kind", x.kind(0), 1);
        due("13 nothing seen", x.witness(0, 3), 0);
        due("13 it lives", x.follow(0), STATE);
        due("13 acts", x.count(6), 3);
    }

    /** Promise 14. */
    private static void witness() {
        CoffinWays x = told("c0,25;p0,1,5;p1,2,2;n25,0;c34,2;c35,2;s26,4;m25,0;");
        due("14 alive from the first", x.witness(0, 2), 1);
        due("14 a child lives 9 longer", x.witness(1, 2), 1);
        due("14 a child dead from the first", x.witness(2, 2), 0);
        due("14 a stranger dead from the first", x.witness(3, 2), 0);
        due("14 age of a dead one", x.witness(3, 0), 26);
        due("14 home", x.witness(3, 1), 4);
        x.bury(2);
        due("14 a dead one swears to nothing", x.witness(2, 3), 0);
        due("14 a living one swears", x.witness(1, 3), 3);
        due("14 the smith", x.witness(4, 3), 2);
        due("14 below", x.witness(-1, 0), BAD);
        due("14 above", x.witness(5, 0), BAD);
        due("14 what below", x.witness(0, -1), BAD);
        due("14 what above", x.witness(0, 4), BAD);
        x.years(1);
        due("14 dead: swears no more", x.witness(0, 3), 0);
    }

    /** Promise 15. */
    private static void path() {
        CoffinWays x = valley();
        x.bury(3);
        x.lock(5, 1);
        due("15 a", x.path(5, 0), 4);
        due("15 b", x.path(5, 1), 3);
        due("15 long", x.path(4, 2), 9);
        due("15 locked", x.path(5, 3), 1);
        due("15 open", x.path(4, 3), 0);
        due("15 who swears", x.path(3, 4), 2 | 4 | 8 | 16);
        due("15 who swears", x.path(2, 4), 2 | 4 | 8 | 32);
        due("15 nobody", x.path(0, 4), 0);
        x.years(3);
        due("15 the dead do not", x.path(2, 4), 2 | 32);
        x.bury(1);
        due("15 the first one, too", x.path(0, 4), 1 | 8 | 16 | 32);
        due("15 below", x.path(-1, 0), BAD);
        due("15 above", x.path(7, 0), BAD);
        due("15 what below", x.path(0, -1), BAD);
        due("15 what above", x.path(0, 5), BAD);
    }

    /** Promise 16. */
    private static void stand() {
        CoffinWays x = told("c2,20;p2,1,1;p1,0,1;n20,1;s21,0;c29,1;");
        due("16 no parish", new CoffinWays().stand(9), STATE);
        x.bury(0);
        x.lock(1, 1);
        due("16 ways", x.stand(0), 3);
        due("16 gates", x.stand(1), 2);
        due("16 who lives", x.stand(2), 5);
        due("16 church", x.stand(3), 2);
        due("16 below", x.stand(-1), BAD);
        due("16 above", x.stand(4), BAD);
        x.years(1);
        due("16 no ways", x.stand(0), 0);
    }

    /** Promise 17. */
    private static void ahead() {
        CoffinWays x = told("c0,40;p0,1,1;p1,2,1;p2,3,1;s0,0;m39,0;n38,1;");
        due("17 no parish", new CoffinWays().ahead(-1), STATE);
        x.bury(3);
        due("17 now", x.ahead(0), 7);
        due("17 two", x.ahead(2), 7);
        due("17 three", x.ahead(3), 0);
        x.undo();
        x.years(2);
        x.bury(3);
        due("17 by the year it is", x.ahead(1), 0);
        due("17 nothing changes", x.stand(0), 7);
        due("17 year", x.count(3), 2);
        due("17 acts", x.count(6), 3);
        due("17 below", x.ahead(-1), BAD);
        due("17 above", x.ahead(61), BAD);
        due("17 most", x.ahead(60), 0);
    }

    /** Promise 18. */
    private static void lost() {
        CoffinWays x = told("c0,60;p0,1,1;p1,2,1;p2,3,1;n0,1;n1,2;s0,7;");
        due("18 no parish", new CoffinWays().lost(0), BAD);
        due("18 none now", x.lost(0), 0);
        x.bury(3);
        due("18 not within 60", x.lost(0), NONE);
        due("18 not within 60", x.lost(1), NONE);
        due("18 behind 60", x.lost(2), 60);
        due("18 nothing changes", x.witness(0, 0), 0);
        x.years(1);
        due("18 behind 60", x.lost(0), 60);
        due("18 behind 59", x.lost(2), 59);
        due("18 below", x.lost(-1), BAD);
        due("18 above", x.lost(3), BAD);
    }

    /** Promise 19. */
    private static void goes() {
        CoffinWays x = valley();
        due("19 no parish", new CoffinWays().goes(8, 2), STATE);
        due("19 as long, the first row of fields", x.goes(2, 1), 4);
        due("19 long", x.goes(2, 0), 3);
        due("19 by 4-3-2-0", x.goes(4, 1), 44);
        due("19 long", x.goes(4, 0), 8);
        due("19 church", x.goes(0, 0), 0);
        due("19 church", x.goes(0, 1), 0);
        due("19 not through", x.goes(6, 0), NONE);
        due("19 not through", x.goes(6, 1), NONE);
        x.lock(3, 1);
        due("19 by 3-4-1-0", x.goes(3, 1), 49);
        due("19 long", x.goes(3, 0), 12);
        x.lock(5, 1);
        due("19 locked in", x.goes(3, 0), NONE);
        due("19 field below", x.goes(-1, 0), BAD);
        due("19 field above", x.goes(8, 0), BAD);
        due("19 what", x.goes(0, 2), BAD);
        due("19 what", x.goes(0, -1), BAD);
        CoffinWays y = told("c5,20;p7,3,1;p7,2,2;p3,5,3;p2,5,2;p7,5,4;");
        due("19 of three by field 2", y.goes(7, 1), 2 | 8);
        y.lock(1, 1);
        due("19 of two by field 3", y.goes(7, 1), 1 | 4);
        y.lock(0, 1);
        due("19 the last one", y.goes(7, 1), 16);
        CoffinWays z = told("c0,20;p6,7,1;p5,6,1;p4,5,1;p3,4,1;p2,3,1;p1,2,1;p0,1,1;p7,0,9;");
        due("19 through all fields", z.goes(7, 0), 7);
        due("19 through all fields", z.goes(7, 1), 127);
    }

    /** Promise 20. */
    private static void stop() {
        CoffinWays x = valley();
        due("20 no parish", new CoffinWays().stop(8, 2), STATE);
        due("20 church", x.stop(0, 0), NONE);
        due("20 church", x.stop(0, 1), NONE);
        due("20 how many", x.stop(3, 0), 2);
        due("20 the least: 0-1 and 0-2", x.stop(3, 1), 5);
        due("20 one", x.stop(5, 1), 64);
        due("20 not through already", x.stop(7, 0), 0);
        due("20 not through already", x.stop(7, 1), 0);
        x.lock(2, 1);
        due("20 one more", x.stop(3, 0), 1);
        due("20 one more", x.stop(3, 1), 1);
        due("20 nothing changes", x.stand(1), 4);
        due("20 of three the least, near church", told("c3,20;p2,3,1;p1,2,1;p0,1,1;").stop(0, 1), 1);
        due("20 of three the least, near the field", told("c3,20;p0,1,1;p1,2,1;p2,3,1;").stop(0, 1), 1);
        due("20 of three the least, between", told("c3,20;p1,2,1;p0,1,1;p2,3,1;").stop(0, 1), 1);
        due("20 the fewest, not the least", told("c3,20;p0,1,1;p0,2,1;p1,2,1;p2,3,1;").stop(0, 1), 8);
        due("20 field", x.stop(8, 0), BAD);
        due("20 field", x.stop(-1, 0), BAD);
        due("20 what", x.stop(0, 2), BAD);
        due("20 what", x.stop(3, -1), BAD);
    }

    /** Promise 21. */
    private static void must() {
        CoffinWays x = valley();
        due("21 no parish", new CoffinWays().must(8), STATE);
        due("21 none", x.must(3), 0);
        due("21 one", x.must(5), 64);
        due("21 church", x.must(0), 0);
        due("21 not through", x.must(7), 0);
        x.lock(2, 1);
        due("21 one", x.must(4), 1);
        x.lock(4, 1);
        due("21 all of a row", x.must(4), 32 | 8 | 2 | 1);
        due("21 below", x.must(-1), BAD);
        due("21 above", x.must(8), BAD);
        due("21 nothing changes", x.stand(1), 20);
    }

    /** Promise 22. */
    private static void live() {
        CoffinWays x = told("c0,40;p0,1,1;p1,2,1;p2,3,1;p3,4,1;n0,1;n0,3;n0,2;n0,4;n41,4;s0,0;");
        due("22 no parish", new CoffinWays().live(-1, 2), STATE);
        due("22 nobody yet", x.live(1, 0), NONE);
        due("22 nobody yet", x.live(1, 1), NONE);
        x.bury(4);
        due("22 the stranger alone", x.live(15, 0), 1);
        due("22 the stranger alone", x.live(15, 1), 32);
        x.years(3);
        due("22 two", x.live(15, 0), 2);
        due("22 two", x.live(15, 1), 3);
        due("22 of several the least", x.live(2, 1), 1);
        due("22 of several the least", x.live(6, 1), 4);
        due("22 of several the least", x.live(7, 1), 3);
        due("22 none is none", x.live(0, 0), 0);
        due("22 none is none", x.live(0, 1), 0);
        due("22 paths", x.live(16, 0), BAD);
        due("22 paths", x.live(-1, 0), BAD);
        due("22 what", x.live(0, 2), BAD);
        due("22 what", x.live(0, -1), BAD);
    }

    /** Promise 23. */
    private static void makes() {
        CoffinWays x = valley();
        due("23 no parish", new CoffinWays().makes(8), STATE);
        due("23 two", x.makes(3), 2);
        due("23 three", x.makes(4), 3);
        due("23 church", x.makes(0), NONE);
        due("23 not through", x.makes(6), NONE);
        x.bury(3);
        due("23 one more", x.makes(4), 1);
        due("23 none more", x.makes(2), 0);
        due("23 nothing changes", x.stand(0), 12);
        due("23 below", x.makes(-1), BAD);
        due("23 above", x.makes(8), BAD);
        CoffinWays y = told("c0,40;p0,1,1;p1,2,1;p2,3,1;n0,1;f0,2;n41,3;");
        due("23 what is seen", y.makes(3), 3);
        y.lock(0, 1);
        due("23 locked", y.makes(3), NONE);
        y.lock(0, 0);
        y.lock(2, 1);
        due("23 the farmer is shut in", y.makes(2), 2);
        due("23 not through", y.makes(3), NONE);
    }

    /** Promise 24. */
    private static void best() {
        CoffinWays x = valley();
        due("24 no parish", new CoffinWays().best(2), STATE);
        due("24 field", x.best(0), 4);
        due("24 how many", x.best(1), 3);
        x.bury(4);
        due("24 of several the first", x.best(0), 1);
        due("24 how many", x.best(1), 1);
        x.bury(1);
        x.bury(5);
        due("24 none is more", x.best(0), 1);
        due("24 none is more", x.best(1), 0);
        for (int i = 0; i < 7; i++) {
            x.lock(i, 1);
        }
        due("24 from none", x.best(0), NONE);
        due("24 from none", x.best(1), NONE);
        due("24 from field 0", told("c1,20;p0,1,1;s0,0;").best(0), 0);
        due("24 from field 0", told("c1,20;p0,1,1;s0,0;").best(1), 1);
        due("24 below", x.best(-1), BAD);
        due("24 above", x.best(2), BAD);
    }

    /** Promise 25. */
    private static void from() {
        CoffinWays x = valley();
        due("25 no parish", new CoffinWays().from(8, 0), STATE);
        due("25 row", x.from(8, 0), BAD);
        due("25 row", x.from(-1, 0), BAD);
        due("25 missing", x.from(0, 0), NULL);
        x.row(0, 1, 5);
        due("25 place", x.from(0, 5), PLACE);
        due("25 place", x.from(0, -1), PLACE);
        x.set(0, 0, 12);
        x.set(0, 1, 44);
        x.set(0, 2, 0);
        x.set(0, 3, 1);
        x.set(0, 4, -1);
        due("25 from 3", x.from(0, 0), 8);
        due("25 from 4", x.from(0, 1), 16);
        due("25 no burial is none", x.from(0, 2), 0);
        due("25 from 1", x.from(0, 3), 2);
        due("25 none", x.from(0, 4), 0);
        x.bury(4);
        due("25 from 2, 3, 4", x.from(0, 1), 28);
        due("25 nothing changes", x.stand(0), 44);
        CoffinWays y = told("c1,20;p0,1,1;p2,1,1;s0,0;");
        y.row(0, 0, 1);
        y.set(0, 0, 1);
        due("25 from field 0", y.from(0, 0), 1);
        due("25 acts", x.count(6), 1);
    }

    /** Promise 26. */
    private static void who() {
        CoffinWays x = valley();
        due("26 no parish", new CoffinWays().who(0, 0, 0, 1), BAD);
        due("26 witness", x.who(6, 0, 0, 1), BAD);
        due("26 witness", x.who(-1, 0, 0, 1), BAD);
        due("26 row", x.who(0, 8, 0, 1), BAD);
        due("26 n", x.who(0, 0, 0, 0), BAD);
        due("26 n", x.who(0, 0, 0, 5), BAD);
        due("26 missing", x.who(0, 0, 0, 1), NULL);
        x.row(0, 1, 8);
        due("26 place", x.who(0, 0, 7, 1), PLACE);
        due("26 place", x.who(0, 0, -1, 1), PLACE);
        due("26 place", x.who(0, 0, 1, 4), PLACE);
        due("26 place", x.who(0, 0, HIGHEST, 4), PLACE);
        x.set(0, 0, 8);
        due("26 no field", x.who(0, 0, 0, 1), BAD);
        x.set(0, 0, -1);
        due("26 no field", x.who(0, 0, 0, 1), BAD);
        x.set(0, 0, 4);
        x.set(0, 1, 8);
        x.set(0, 2, 9);
        due("26 no field further on", x.who(2, 0, 0, 2), BAD);
        x.set(0, 1, 44);
        due("26 at home 2: the child and the stranger see all", x.who(2, 0, 0, 1), 4 | 16);
        x.set(0, 1, 12);
        due("26 neighbours see 2-3 and 0-2", x.who(2, 0, 0, 1), 2 | 8);
        x.set(0, 1, 32);
        due("26 the smith", x.who(2, 0, 0, 1), 32);
        due("26 fine", x.status(), 0);
        x.lock(1, 1);
        x.set(0, 1, 0);
        due("26 the farmer is shut in", x.who(2, 0, 0, 1), 8);
        x.lock(1, 0);
        x.bury(5);
        put(x, 5, 64, 0, 64, 7, 64, 3, 72);
        due("26 one behind another: the smith", x.who(3, 0, 0, 4), 32);
        put(x, 5, 64, 0, 64, 7, 64, 3, 76);
        due("26 one behind another: the stranger", x.who(3, 0, 0, 4), 16);
        put(x, 5, 64, 0, 65, 7, 64, 3, 76);
        due("26 each has to fit", x.who(3, 0, 0, 4), 0);
        due("26 nothing changes", x.witness(3, 3), 64);
        due("26 acts", x.count(6), 3);
        put(x, 3, 12, 0, 12, 0, 0, 0, 0);
        due("26 it is no stranger, but could be", x.who(1, 0, 0, 2), 2 << 1 | 16);
    }

    private static void put(CoffinWays x, int... items) {
        for (int i = 0; i < items.length; i++) {
            due("3 put", x.set(0, i, items[i]), items[i]);
        }
    }

    /** A kind also says how long one lives: promise 26. */
    private static void whoByLife() {
        CoffinWays x = told("c0,20;p0,1,1;n21,1;c29,1;m30,1;");
        x.row(0, 1, 8);
        put(x, 1, 1, 1, 0, 0, 0, 0, 0);
        due("26 at 21 only a child lives", x.who(0, 0, 0, 1), 4);
        due("26 all others are dead", x.who(0, 0, 2, 1), 2 | 8 | 16 | 32);
        due("26 at 29 only a child lives", x.who(1, 0, 0, 1), 4);
        due("26 all others are dead", x.who(1, 0, 2, 1), 2 | 8 | 16 | 32);
        due("26 at 30 nobody lives", x.who(2, 0, 0, 1), 0);
        due("26 at 30 nobody lives", x.who(2, 0, 2, 1), 62);
        CoffinWays y = told("c0,20;p0,1,1;p1,2,1;m19,7;s20,7;");
        y.row(0, 1, 8);
        y.bury(2);
        y.bury(1);
        put(y, 0, 3, 0, 2, 0, 1, 0, 0);
        due("26 the smith saw both", y.who(0, 0, 0, 1), 62);
        y.years(2);
        due("26 the dead smith forgot both", y.who(0, 0, 6, 1), 62);
        due("26 the dead stranger forgot nothing yet", y.who(1, 0, 0, 1), 4);
        y.years(1);
        due("26 the dead stranger forgot all", y.who(1, 0, 6, 1), 62);
    }

    /** Promise 27. */
    private static void far() {
        CoffinWays x = valley();
        due("27 no parish", new CoffinWays().far(8), STATE);
        x.lock(2, 1);
        x.lock(3, 1);
        due("27 by locked gates", x.far(3), 7);
        due("27 goes elsewhere", x.goes(3, 0), 12);
        due("27 church", x.far(0), 0);
        due("27 apart", x.far(7), NONE);
        due("27 below", x.far(-1), BAD);
        due("27 above", x.far(8), BAD);
    }

    /** Promise 28. */
    private static void pairs() {
        CoffinWays x = told("c0,40;p0,1,1;p1,2,1;s0,0;s0,1;c0,1;n41,1;n0,2;m0,5;");
        due("28 no parish", new CoffinWays().pairs(), STATE);
        due("28 nothing is no pair", x.pairs(), 0);
        x.bury(2);
        due("28 three of three, one of two", x.pairs(), 4);
        x.years(1);
        due("28 the smith forgot", x.pairs(), 3);
    }

    /** Promise 29. */
    private static void locked() {
        CoffinWays x = valley();
        due("29 no parish", new CoffinWays().locked(8, 0, 0), STATE);
        fraction(x, 5, 0, 1, 1);
        fraction(x, 5, 10, 0, 1);
        fraction(x, 5, 5, 1, 2);
        fraction(x, 5, 3, 7, 10);
        fraction(x, 5, 4, 3, 5);
        fraction(x, 0, 10, 1, 1);
        fraction(x, 0, 3, 1, 1);
        fraction(x, 7, 3, 0, 1);
        // Behind 4-1 and 3-2 locked: from 2 by 0-2, or by 1-2 and 0-1.
        x.lock(3, 1);
        x.lock(4, 1);
        fraction(x, 2, 5, 5, 8);
        fraction(x, 2, 1, 981, 1000);
        x.lock(2, 1);
        fraction(x, 2, 1, 81, 100);
        x.lock(0, 1);
        fraction(x, 2, 1, 0, 1);
        due("29 nothing changes", x.stand(1), 29);
        due("29 field", x.locked(8, 0, 0), BAD);
        due("29 field", x.locked(-1, 0, 0), BAD);
        due("29 p", x.locked(0, -1, 0), BAD);
        due("29 p", x.locked(0, 11, 0), BAD);
        due("29 what", x.locked(0, 0, 2), BAD);
        due("29 what", x.locked(0, 0, -1), BAD);
        CoffinWays y = told("c7,20;p0,1,1;p1,2,1;p2,3,1;p3,4,1;p4,5,1;p5,6,1;p6,7,1;");
        fraction(y, 0, 9, 1, 10000000);
        fraction(y, 0, 3, 823543, 10000000);
        CoffinWays z = told("c0,20;p0,7,1;p7,1,1;p7,2,1;p7,3,1;p7,4,1;p7,5,1;p7,6,1;p1,2,1;p2,3,1;p3,4,1;p4,5,1;p5,6,1;");
        fraction(z, 7, 1, 9, 10);
        fraction(z, 7, 9, 1, 10);
    }

    private static void fraction(CoffinWays x, int field, int p, long above, long below) {
        due("29 above, " + field + " by " + p, x.locked(field, p, 0), above);
        due("29 below, " + field + " by " + p, x.locked(field, p, 1), below);
    }

    /** Promise 30: seed 1 draws 16807 (field 7), 282475249 (1), 1622650073 (1), 984943658 (2), 1144108930 (2). */
    private static void drawn() {
        CoffinWays x = told("c0,40;p0,1,1;p1,2,1;p2,3,1;n0,1;m0,0;s0,0;");
        due("30 no parish", new CoffinWays().drawn(-1, 0, 2), STATE);
        due("30 none", x.drawn(0, 1, 0), 0);
        due("30 none", x.drawn(0, 1, 1), 0);
        due("30 not through", x.drawn(1, 1, 1), 0);
        due("30 one", x.drawn(2, 1, 1), 1);
        due("30 one", x.drawn(2, 1, 0), 1);
        due("30 two", x.drawn(3, 1, 1), 2);
        due("30 three", x.drawn(4, 1, 0), 3);
        due("30 three", x.drawn(4, 1, 1), 3);
        due("30 four", x.drawn(5, 1, 1), 4);
        due("30 nothing changes", x.stand(0), 0);
        due("30 year", x.count(3), 0);
        due("30 most", x.drawn(60, 999999, 1) > 0 ? 1 : 0, 1);
        due("30 n", x.drawn(-1, 1, 0), BAD);
        due("30 n", x.drawn(61, 1, 0), BAD);
        due("30 seed", x.drawn(1, 0, 0), BAD);
        due("30 seed", x.drawn(1, 1000000, 0), BAD);
        due("30 what", x.drawn(1, 1, 2), BAD);
        due("30 what", x.drawn(1, 1, -1), BAD);
        // The burial comes ahead of the year: what the stranger saw in year 2 is forgotten in it.
        CoffinWays y = told("c0,40;p0,1,1;p1,2,1;s0,0;");
        due("30 ways of year 1", y.drawn(2, 1, 0), 1);
        due("30 ways of year 2", y.drawn(3, 1, 0), 0);
        due("30 from church is none", told("c1,40;p0,1,1;s0,0;").drawn(3, 1, 1), 0);
    }

    /** Promises 31 and 32. */
    private static void images() {
        CoffinWays x = new CoffinWays();
        due("31 below", x.image(-1), BAD);
        due("31 above", x.image(2), BAD);
        due("31 no parish", x.image(0), STATE);
        due("32 below", x.restore(-1), BAD);
        due("32 above", x.restore(2), BAD);
        due("32 none kept", x.restore(1), STATE);
        tell(x, VALLEY);
        x.bury(3);
        x.lock(5, 1);
        x.years(4);
        due("31 kept", x.image(1), 1);
        due("31 acts stay", x.count(6), 6);
        due("32 none kept", x.restore(0), STATE);
        x.years(24);
        tell(x, "c1,90;p0,1,5;c60,2;");
        x.bury(0);
        due("31 kept", x.image(0), 1);
        due("32 restored", x.restore(1), 1);
        due("32 no act", x.count(6), 0);
        due("32 undo", x.undo(), STATE);
        due("32 paths", x.count(1), 7);
        due("32 witnesses", x.count(2), 6);
        due("32 year", x.count(3), 4);
        due("32 lives", x.count(5), 40);
        due("32 church", x.stand(3), 0);
        due("32 gates", x.stand(1), 32);
        due("32 ways", x.stand(0), 12);
        due("32 age", x.witness(0, 0), 34);
        due("32 kind", x.kind(4), 5);
        due("32 home", x.witness(3, 1), 7);
        due("32 long", x.path(4, 2), 9);
        x.years(1);
        due("32 restored again", x.restore(1), 1);
        due("32 the image stayed", x.count(3), 4);
        due("32 the other", x.restore(0), 1);
        due("32 paths", x.count(1), 1);
        due("32 age", x.witness(0, 0), 60);
        due("31 over the one before", x.image(1), 1);
        due("32 it is that now", x.restore(1), 1);
        due("32 paths", x.count(1), 1);
    }

    /** Promise 33. */
    private static void kind() {
        CoffinWays x = valley();
        int[] told = {1, 2, 3, 4, 5, 1};
        for (int i = 0; i < 6; i++) {
            due("33 kind", x.kind(i), told[i]);
        }
        due("33 below", x.kind(-1), BAD);
        due("33 above", x.kind(6), BAD);
    }

    /** Promise 34. */
    private static void as() {
        CoffinWays x = valley();
        int[] are = {1 | 2, 1 | 2 | 4, 1 | 2 | 8, 1 | 16, 1 | 16 | 32, 1 | 2};
        for (int i = 0; i < 6; i++) {
            for (int kind = 0; kind < 6; kind++) {
                boolean is = (are[i] >> kind & 1) == 1;
                due("34 as " + kind, x.as(i, kind), is ? i : KIND);
                due("34 status", x.status(), is ? 0 : 3);
            }
        }
        due("34 one", x.as(6, 0), BAD);
        due("34 one", x.as(-1, 0), BAD);
        due("34 kind", x.as(0, 6), BAD);
        due("34 kind", x.as(0, -1), BAD);
        due("34 no parish", new CoffinWays().as(0, 0), BAD);
    }

    /** Promises 35 and 36. */
    private static void ask() {
        CoffinWays x = valley();
        x.bury(3);
        x.bury(4);
        // Sworn to: 0: nothing, 1: 2 3 5, 2: 2 3, 3: 2 3 5, 4: 3 5, 5: 2.
        asks(x, 0, 0, 30, 11, 10, 21, 20);
        asks(x, 0, 1, 30, 21, 20);
        asks(x, 1, 0, -(3 + 20), 12, 11, 10, 24, 21, 20);
        asks(x, 1, 1, 20, 24, 21, 20);
        asks(x, 2, 0, 2 + 40 - 1000, 11, 10, 22, 21, 20);
        asks(x, 2, 1, 40 - 1000, 22, 21, 20);
        asks(x, 3, 0, 3 - 100, 13, 10);
        asks(x, 3, 1, 3 + 97, 23, 20, 13, 10);
        asks(x, 4, 0, -196, 14, 13, 10);
        asks(x, 4, 1, 4 + 196, 23, 20, 14, 13, 10);
        asks(x, 5, 0, 1 + 5, 11, 10, 21, 20);
        due("35 one", x.ask(6, 0), BAD);
        due("35 one", x.ask(-1, 0), BAD);
        due("35 what", x.ask(0, 2), BAD);
        due("35 what", x.ask(0, -1), BAD);
        due("36 a refused ask leaves the trace", x.trace(0), 11);
        due("36 below", x.trace(-1), NONE);
        due("36 above", x.trace(16), NONE);
        due("36 far above", x.trace(HIGHEST), NONE);
        x.years(3);
        due("35 the farmer is dead", x.witness(2, 2), 0);
        asks(x, 2, 0, 0 + 43 - 1000, 11, 10, 22, 21, 20);
    }

    private static void asks(CoffinWays x, int one, int what, int answer, int... trace) {
        due("35 ask " + one + ", " + what, x.ask(one, what), answer);
        for (int i = 0; i < trace.length; i++) {
            due("36 trace " + i + " of " + one + ", " + what, x.trace(i), trace[i]);
        }
        due("36 the end of " + one + ", " + what, x.trace(trace.length), NONE);
    }

    /** Promise 37. */
    private static void count() {
        CoffinWays x = valley();
        x.row(0, 0, 0);
        x.row(5, 2, 3);
        x.row(5, 1, 2);
        x.bury(3);
        x.years(3);
        x.feed('c');
        due("37 rows", x.count(0), 2);
        due("37 paths", x.count(1), 7);
        due("37 witnesses", x.count(2), 6);
        due("37 year", x.count(3), 3);
        due("37 ways", x.count(4), 2);
        due("37 lives", x.count(5), 40);
        due("37 acts", x.count(6), 4);
        due("37 bytes", x.count(7), 1);
        due("37 below", x.count(-1), BAD);
        due("37 above", x.count(8), BAD);
    }

    /** Promise 38. */
    private static void status() {
        CoffinWays x = new CoffinWays();
        due("38 null", x.set(0, 0, 0), NULL);
        due("38", x.status(), 1);
        due("38 state leaves it", x.from(0, 0), STATE);
        due("38", x.status(), 1);
        tell(x, VALLEY);
        due("38 other calls leave it", x.status(), 1);
        due("38 bad leaves it", x.row(0, 3, 0), BAD);
        due("38", x.status(), 1);
        due("38 fine", x.row(0, 0, 2), 2);
        due("38", x.status(), 0);
        due("38 place", x.from(0, 2), PLACE);
        due("38", x.status(), 2);
        due("38 a call without a row leaves it", x.bury(3), 12);
        due("38 a call without a row leaves it", x.witness(0, 0), 30);
        due("38", x.status(), 2);
        due("38 kind", x.as(0, 5), KIND);
        due("38", x.status(), 3);
        due("38 fine", x.set(0, 0, 12), 12);
        due("38", x.status(), 0);
        due("38 size", x.row(0, 0, -5), SIZE);
        due("38", x.status(), 4);
        due("38 fine", x.from(0, 0), 8 | 4);
        due("38", x.status(), 0);
        x.row(1, 1, 2);
        due("38 store", x.copy(0, 0, 1, 0, 1), STORE);
        due("38", x.status(), 5);
        due("38 fine", x.copy(0, 0, 0, 1, 1), 1);
        due("38", x.status(), 0);
        due("38 null", x.drop(7), NULL);
        due("38", x.status(), 1);
        due("38 fine", x.drop(1), 2);
        due("38", x.status(), 0);
        due("38 place", x.who(0, 0, 1, 1), PLACE);
        due("38", x.status(), 2);
        due("38 no field is bad", x.who(0, 0, 0, 1), BAD);
        due("38", x.status(), 2);
        x.set(0, 0, 3);
        x.as(0, 5);
        due("38 fine", x.who(1, 0, 0, 1), 62);
        due("38", x.status(), 0);
        x.as(0, 5);
        due("38 fine", x.as(0, 0), 0);
        due("38", x.status(), 0);
    }
}
