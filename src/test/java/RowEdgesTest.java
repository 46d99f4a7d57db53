/** Promises 2 to 8: rows, the tape and its reading, each at its edges. */
public final class RowEdgesTest {
    private static final Check CHECK = new Check();
    private static final int[] FAR = {Told.LOWEST, Told.LOWEST + 1, -41, -1, 41, Told.HIGHEST - 1, Told.HIGHEST};

    private RowEdgesTest() {
    }

    public static void main(String[] args) {
        rowItems();
        rowInPlace();
        setLowestBits();
        setPlaces();
        copyOrder();
        copyPlaces();
        copyAsTheyWere();
        copyAllSizes();
        copyLanes();
        drop();
        feed();
        parishEmptiesTheTape();
        parishAllStays();
        faultLatest();
        CHECK.end();
    }

    private static void due(String call, long got, long want) {
        CHECK.due(call, got, want);
    }

    /** Items 1 to 7 (0 is none of these) of a row of ints in a STAR, as figures. */
    private static long figures(CoffinWays x, int row, int n) {
        long told = 0;
        for (int i = 0; i < n; i++) {
            int fields = x.from(row, i);
            told = told * 10 + (fields == 0 ? 0 : Integer.numberOfTrailingZeros(fields));
        }
        return told;
    }

    /** So that figures() reads them: field k is carried by path k less 1. */
    private static void lay(CoffinWays x, int row, int lane, int... figures) {
        x.row(row, lane, figures.length);
        for (int i = 0; i < figures.length; i++) {
            x.set(row, i, figures[i] == 0 ? 0 : 1 << figures[i] - 1);
        }
    }

    /** Promise 2: "A ROW of a LANE with n ITEMS: n. BAD: ROW, LANE, n above 40; SIZE". */
    private static void rowItems() {
        CoffinWays x = new CoffinWays();
        for (int n = 0; n <= 40; n++) {
            due("n " + n, x.row(0, 1, n), n);
            due("status", x.status(), 0);
        }
        for (int n : new int[] {41, 42, Told.HIGHEST}) {
            due("n " + n, x.row(0, 1, n), Told.BAD);
            due("n " + n + " of no lane", x.row(0, 3, n), Told.BAD);
        }
        for (int n : new int[] {-1, -2, Told.LOWEST}) {
            due("n " + n, x.row(0, 1, n), Told.SIZE);
            due("status", x.status(), 4);
            due("bad ahead of size: row", x.row(8, 1, n), Told.BAD);
            due("bad ahead of size: row", x.row(-1, 1, n), Told.BAD);
            due("bad ahead of size: lane", x.row(0, 3, n), Told.BAD);
            due("bad ahead of size: lane", x.row(0, -1, n), Told.BAD);
        }
        due("the row stays", x.drop(0), 40);
        due("size of a row that is missing", x.row(0, 1, -1), Told.SIZE);
        due("it is missing yet", x.drop(0), Told.NULL);
    }

    /** Promise 2: "in place of what is there". */
    private static void rowInPlace() {
        CoffinWays x = Told.parish(Told.STAR);
        lay(x, 0, 2, 1, 2, 3);
        due("items", figures(x, 0, 3), 123);
        x.row(0, 2, 3);
        due("0 again", figures(x, 0, 3), 0);
        due("one row", x.count(0), 1);
        x.row(0, 0, 5);
        due("another lane", x.set(0, 4, 300), 44);
        due("another size", x.drop(0), 5);
    }

    /** Promise 3: "ITEM i becomes v, its lowest bits, as many as the LANE has: what it is then". */
    private static void setLowestBits() {
        CoffinWays x = new CoffinWays();
        x.row(0, 0, 1);
        x.row(1, 1, 1);
        x.row(2, 2, 1);
        int[] values = {0, 1, -1, 127, 128, 129, 255, 256, 257, -128, -129, -255, -256, -257, 32767, 32768, 65535, 65536,
            -32768, -32769, -65536, -65537, Told.LOWEST, Told.HIGHEST, 0x7fffff80, 0x7fff8000};
        for (int v : values) {
            due("byte of " + v, x.set(0, 0, v), Math.floorMod(v + 128L, 256L) - 128);
            due("short of " + v, x.set(1, 0, v), Math.floorMod(v + 32768L, 65536L) - 32768);
            due("int of " + v, x.set(2, 0, v), v);
        }
    }

    /** Promise 3: "BAD: ROW; NULL; PLACE". */
    private static void setPlaces() {
        for (int size = 0; size <= 40; size++) {
            CoffinWays x = new CoffinWays();
            x.row(0, 2, size);
            due("the last", x.set(0, size - 1, 5), size == 0 ? Told.PLACE : 5);
            due("behind the last", x.set(0, size, 5), Told.PLACE);
            for (int i : FAR) {
                due("place " + i, x.set(0, i, 5), Told.PLACE);
                due("null ahead of place " + i, x.set(1, i, 5), Told.NULL);
                due("bad ahead of place " + i, x.set(8, i, 5), Told.BAD);
            }
        }
    }

    /** Promise 4: "BAD: ROWS; NULL; STORE; PLACE", in this order, of either row. */
    private static void copyOrder() {
        CoffinWays x = new CoffinWays();
        x.row(0, 2, 4);
        x.row(1, 1, 4);
        x.row(2, 2, 4);
        due("a is none", x.copy(8, 0, 7, 0, -1), Told.BAD);
        due("a is none", x.copy(-1, 0, 0, 0, 1), Told.BAD);
        due("b is none", x.copy(7, 0, 8, 0, -1), Told.BAD);
        due("b is none", x.copy(0, 0, -1, 0, 1), Told.BAD);
        due("a is missing", x.copy(7, -1, 0, -1, -1), Told.NULL);
        due("b is missing", x.copy(0, -1, 7, -1, -1), Told.NULL);
        due("both are missing", x.copy(6, 0, 7, 0, 0), Told.NULL);
        due("two lanes", x.copy(0, -1, 1, -1, -1), Told.STORE);
        due("two lanes", x.copy(1, 0, 0, 0, 0), Told.STORE);
        due("place", x.copy(0, -1, 2, -1, -1), Told.PLACE);
        due("fine", x.copy(0, 0, 2, 0, 0), 0);
    }

    /** Promise 4: "PLACE (i, j, n below 0, or beyond an end)". */
    private static void copyPlaces() {
        CoffinWays x = new CoffinWays();
        x.row(0, 0, 40);
        x.row(1, 0, 10);
        due("all of the smaller", x.copy(0, 30, 1, 0, 10), 10);
        due("all of the smaller", x.copy(1, 0, 0, 30, 10), 10);
        due("i one too far", x.copy(0, 31, 1, 0, 10), Told.PLACE);
        due("j one too far", x.copy(1, 0, 0, 31, 10), Told.PLACE);
        due("n one too many for b", x.copy(0, 0, 1, 0, 11), Told.PLACE);
        due("n one too many for a", x.copy(1, 0, 0, 0, 11), Told.PLACE);
        due("j by one", x.copy(0, 0, 1, 1, 10), Told.PLACE);
        due("i by one", x.copy(1, 1, 0, 0, 10), Told.PLACE);
        due("none at both ends", x.copy(0, 40, 1, 10, 0), 0);
        due("none beyond a", x.copy(0, 41, 1, 10, 0), Told.PLACE);
        due("none beyond b", x.copy(0, 40, 1, 11, 0), Told.PLACE);
        for (int far : FAR) {
            due("i " + far, x.copy(0, far, 1, 0, 0), Told.PLACE);
            due("i " + far, x.copy(0, far, 1, 0, 1), Told.PLACE);
            due("j " + far, x.copy(0, 0, 1, far, 0), Told.PLACE);
            due("j " + far, x.copy(0, 0, 1, far, 1), Told.PLACE);
            due("n " + far, x.copy(0, 0, 1, 0, far), Told.PLACE);
            due("n " + far, x.copy(0, 5, 1, 5, far), Told.PLACE);
            due("all " + far, x.copy(0, far, 1, far, far), Told.PLACE);
        }
        due("wraps around to 0", x.copy(0, 1, 1, 1, Told.HIGHEST), Told.PLACE);
        due("i and n wrap around", x.copy(0, Told.HIGHEST, 1, 0, 2), Told.PLACE);
        due("j and n wrap around", x.copy(0, 0, 1, Told.HIGHEST, 2), Told.PLACE);
        x.row(2, 0, 0);
        due("none of none", x.copy(2, 0, 2, 0, 0), 0);
        due("one of none", x.copy(2, 0, 1, 0, 1), Told.PLACE);
        due("one to none", x.copy(1, 0, 2, 0, 1), Told.PLACE);
    }

    /** Promise 4: "n ITEMS of a from i on come to b from j on, as they were ahead". */
    private static void copyAsTheyWere() {
        CoffinWays x = Told.parish(Told.STAR);
        lay(x, 0, 2, 1, 2, 3, 4, 5, 6, 7);
        due("by one up", x.copy(0, 0, 0, 1, 6), 6);
        due("items", figures(x, 0, 7), 1123456);
        due("by one down", x.copy(0, 1, 0, 0, 6), 6);
        due("items", figures(x, 0, 7), 1234566);
        due("by three up", x.copy(0, 0, 0, 3, 4), 4);
        due("items", figures(x, 0, 7), 1231234);
        due("in place", x.copy(0, 0, 0, 0, 7), 7);
        due("items", figures(x, 0, 7), 1231234);
        lay(x, 1, 2, 7, 7, 7, 7);
        due("to another", x.copy(0, 5, 1, 1, 2), 2);
        due("items", figures(x, 1, 4), 7347);
        due("a stays", figures(x, 0, 7), 1231234);
        due("none", x.copy(0, 0, 1, 0, 0), 0);
        due("items", figures(x, 1, 4), 7347);
        due("beyond the end: nothing comes", x.copy(0, 0, 1, 0, 5), Told.PLACE);
        due("items", figures(x, 1, 4), 7347);
    }

    /** Each i, j, n of two small rows, against what the words say. */
    private static void copyAllSizes() {
        CoffinWays x = new CoffinWays();
        x.row(0, 1, 3);
        x.row(1, 1, 2);
        for (int i = -1; i <= 4; i++) {
            for (int j = -1; j <= 3; j++) {
                for (int n = -1; n <= 4; n++) {
                    boolean fits = i >= 0 && j >= 0 && n >= 0 && i + n <= 3 && j + n <= 2;
                    due("copy " + i + " " + j + " " + n, x.copy(0, i, 1, j, n), fits ? n : Told.PLACE);
                    due("status", x.status(), fits ? 0 : 2);
                }
            }
        }
    }

    /** "STORE (ROWS of two LANES)": each lane with each. */
    private static void copyLanes() {
        CoffinWays x = new CoffinWays();
        for (int a = 0; a <= 2; a++) {
            for (int b = 0; b <= 2; b++) {
                x.row(a, a, 1);
                x.row(3 + b, b, 1);
                due("lanes " + a + " " + b, x.copy(a, 0, 3 + b, 0, 1), a == b ? 1 : Told.STORE);
                due("lanes " + a + " " + b + ", none", x.copy(a, 0, 3 + b, 0, 0), a == b ? 0 : Told.STORE);
            }
        }
    }

    /** Promise 5: "A ROW is missing from now on: how many ITEMS it had. BAD; NULL". */
    private static void drop() {
        for (int n = 0; n <= 40; n++) {
            CoffinWays x = new CoffinWays();
            x.row(7, 2, n);
            due("had", x.drop(7), n);
            due("missing", x.drop(7), Told.NULL);
            due("set", x.set(7, 0, 1), Told.NULL);
            due("copy", x.copy(7, 0, 7, 0, 0), Told.NULL);
            due("rows", x.count(0), 0);
        }
    }

    /** Promise 6: "A byte (0 to 255) comes behind the tape: how many it has. BAD; FULL". */
    private static void feed() {
        CoffinWays x = new CoffinWays();
        for (int b : new int[] {-1, 256, Told.LOWEST, Told.HIGHEST}) {
            due("byte " + b, x.feed(b), Told.BAD);
        }
        due("bytes", x.count(7), 0);
        due("byte 0", x.feed(0), 1);
        due("byte 255", x.feed(255), 2);
        for (int n = 3; n <= 140; n++) {
            x.feed(n);
        }
        for (int b : new int[] {-1, 256, Told.LOWEST, Told.HIGHEST}) {
            due("bad ahead of full " + b, x.feed(b), Told.BAD);
        }
        due("full", x.feed(0), Told.FULL);
        due("full", x.feed(255), Told.FULL);
        due("bytes", x.count(7), 140);
    }

    /** Promise 7: "The tape, empty then, is read", be it with a fault or without. */
    private static void parishEmptiesTheTape() {
        CoffinWays x = new CoffinWays();
        due("read", Told.tell(x, "c0,20;p0,1,1;"), 1);
        due("empty", x.count(7), 0);
        due("nothing to read", x.parish(), -1000100);
        due("fault", x.fault(), 1);
        due("with a fault", Told.tell(x, "c0,20;p0,1,1"), -1000112);
        due("empty", x.count(7), 0);
        due("the rest is no text", Told.tell(x, ";"), -1000100);
        due("read", Told.tell(x, "c0,20;p0,1,1;p1,2,1;"), 2);
    }

    /** Promise 7: "-1000100 less the place of a FAULT: all stays". */
    private static void parishAllStays() {
        String[] faulty = {"", "x", "c8", "c7,90;p1,1", "c7,90;p7,6,9;p5,4,9;p3,2,9;n60,7;n61", "c7,90;p7,6,9;m1,1;m1,1;m1,1;m1,1;m1,1;m1,1;m"};
        for (String text : faulty) {
            CoffinWays x = Told.parish("c0,20;p0,1,3;p1,2,2;n19,1;s0,0;");
            x.bury(2);
            x.image(0);
            x.years(1);
            x.lock(1, 1);
            x.row(0, 1, 3);
            due("a fault", Told.tell(x, text) < -1000099 ? 1 : 0, 1);
            due("rows", x.count(0), 1);
            due("paths", x.count(1), 2);
            due("witnesses", x.count(2), 2);
            due("year", x.count(3), 1);
            due("ways", x.count(4), 2);
            due("lives", x.count(5), 20);
            due("acts", x.count(6), 3);
            due("gates", x.stand(1), 2);
            due("who lives", x.stand(2), 3);
            due("church", x.stand(3), 0);
            due("long", x.path(0, 2), 3);
            due("home", x.witness(0, 1), 1);
            due("age", x.witness(0, 0), 20);
            due("saw", x.witness(1, 3), 3);
            due("ahead", x.ahead(1), 3);
            due("far", x.far(2), 5);
            due("undo", x.undo(), 2);
            due("undo", x.undo(), 1);
            due("year", x.count(3), 0);
            due("undo", x.undo(), 0);
            due("the image", x.restore(0), 1);
            due("ways", x.stand(0), 3);
        }
    }

    /** Promise 8: "The number of the latest FAULT; 0 before one". */
    private static void faultLatest() {
        CoffinWays x = new CoffinWays();
        due("0 before one", x.fault(), 0);
        Told.tell(x, "c0,20;p0,1,1;");
        due("0 before one", x.fault(), 0);
        Told.tell(x, "c9");
        due("2", x.fault(), 2);
        Told.tell(x, "c0,20;p0,1,1;");
        due("2 is the latest yet", x.fault(), 2);
        Told.tell(x, "c0,20;p0,1,1;" + "n0,0;".repeat(7));
        due("3", x.fault(), 3);
        Told.tell(x, "?");
        due("1", x.fault(), 1);
        x.feed(256);
        x.stand(9);
        due("refusals are no faults", x.fault(), 1);
        x.image(0);
        x.restore(0);
        due("nor does an image change it", x.fault(), 1);
    }
}
