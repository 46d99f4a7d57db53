/** Terms, part 1: each sentence about rows, texts and faults that names an edge, at the edge and beyond it. */
public final class TextEdgesTest {
    private static final Check CHECK = new Check();
    private static final String LAW = "c0,20;", PATH = "p0,1,1;";

    private TextEdgesTest() {
    }

    public static void main(String[] args) {
        rowsThere();
        rowsMissingAtFirst();
        lanes();
        itemsMost();
        itemsZeroAtFirst();
        tapeMost();
        tapeFullOfText();
        everyByteFirst();
        everyByteBehind();
        everyByteWithinNumbers();
        figuresTwoAtMost();
        law();
        pathFields();
        pathsUnlike();
        pathsBetweenTheSame();
        pathLong();
        pathsMost();
        gatesOpenAtFirst();
        witnessAge();
        witnessHome();
        witnessSorts();
        witnessesMost();
        orderOfParts();
        inPlaceOfTheOneBefore();
        inPlaceOfWhatWasForetold();
        noneAtFirst();
        firstTokenThatHasOne();
        leastOfOneToken();
        endOfTape();
        CHECK.end();
    }

    private static void due(String call, long got, long want) {
        CHECK.due(call, got, want);
    }

    private static void reads(String text, int paths) {
        CoffinWays x = new CoffinWays();
        due("parish of " + text, Told.tell(x, text), paths);
        due("fault of " + text, x.fault(), 0);
        due("paths of " + text, x.count(1), paths);
    }

    private static void fails(String text, int place, int number) {
        CoffinWays x = new CoffinWays();
        due("parish of " + text, Told.tell(x, text), -1000100 - place);
        due("fault of " + text, x.fault(), number);
        due("no parish by " + text, x.stand(0), Told.STATE);
    }

    /** "ROWS 0 .. 7". */
    private static void rowsThere() {
        CoffinWays x = Told.parish(Told.STAR);
        for (int row = 0; row <= 7; row++) {
            due("row " + row, x.row(row, 2, 2), 2);
            due("set " + row, x.set(row, 0, 1), 1);
            due("copy from " + row, x.copy(row, 0, 0, 1, 1), 1);
            due("copy to " + row, x.copy(0, 0, row, 1, 1), 1);
            due("from " + row, x.from(row, 0), 2);
            due("who " + row, x.who(0, row, 0, 1), 62);
            due("count", x.count(0), row + 1);
        }
        for (int row = 0; row <= 7; row++) {
            due("drop " + row, x.drop(row), 2);
            due("count", x.count(0), 7 - row);
        }
        for (int row : new int[] {-1, 8, Told.LOWEST, Told.HIGHEST}) {
            due("row " + row, x.row(row, 2, 2), Told.BAD);
            due("set " + row, x.set(row, 0, 1), Told.BAD);
            due("copy from " + row, x.copy(row, 0, 0, 0, 0), Told.BAD);
            due("copy to " + row, x.copy(0, 0, row, 0, 0), Told.BAD);
            due("from " + row, x.from(row, 0), Told.BAD);
            due("who " + row, x.who(0, row, 0, 1), Told.BAD);
            due("drop " + row, x.drop(row), Told.BAD);
        }
        due("rows", x.count(0), 0);
    }

    /** "are missing (at first)". */
    private static void rowsMissingAtFirst() {
        CoffinWays x = Told.parish(Told.STAR);
        for (int row = 0; row <= 7; row++) {
            due("set " + row, x.set(row, 0, 0), Told.NULL);
            due("copy " + row, x.copy(row, 0, row, 0, 0), Told.NULL);
            due("from " + row, x.from(row, 0), Told.NULL);
            due("who " + row, x.who(0, row, 0, 1), Told.NULL);
            due("drop " + row, x.drop(row), Told.NULL);
        }
        due("a parish lays no row", x.count(0), 0);
    }

    /** "or have a LANE (0 bytes, 1 shorts, 2 ints)". */
    private static void lanes() {
        CoffinWays x = new CoffinWays();
        int[] kept = {-1, -1, 0xffffff};
        int[] top = {127, 32767, Told.HIGHEST};
        for (int lane = 0; lane <= 2; lane++) {
            due("lane " + lane, x.row(lane, lane, 1), 1);
            due("kept of lane " + lane, x.set(lane, 0, 0xffffff), kept[lane]);
            due("most of lane " + lane, x.set(lane, 0, top[lane]), top[lane]);
            due("above the most of lane " + lane, x.set(lane, 0, top[lane] + 1), -top[lane] - 1);
            due("least of lane " + lane, x.set(lane, 0, -top[lane] - 1), -top[lane] - 1);
            due("below the least of lane " + lane, x.set(lane, 0, -top[lane] - 2), top[lane]);
        }
        for (int lane : new int[] {-1, 3, Told.LOWEST, Told.HIGHEST}) {
            due("lane " + lane, x.row(3, lane, 1), Told.BAD);
            due("no lane is bad for no items, too", x.row(3, lane, 0), Told.BAD);
        }
        due("rows", x.count(0), 3);
    }

    /** "and 0 to 40 ITEMS". */
    private static void itemsMost() {
        for (int lane = 0; lane <= 2; lane++) {
            CoffinWays x = new CoffinWays();
            due("no items", x.row(1, lane, 0), 0);
            due("it is there all the same", x.count(0), 1);
            due("no place", x.set(1, 0, 1), Told.PLACE);
            due("40 items", x.row(0, lane, 40), 40);
            due("the first", x.set(0, 0, 5), 5);
            due("the last", x.set(0, 39, 7), 7);
            due("beyond the last", x.set(0, 40, 9), Told.PLACE);
            due("41 items", x.row(0, lane, 41), Told.BAD);
            due("fewer than none", x.row(0, lane, -1), Told.SIZE);
            due("the row stays", x.drop(0), 40);
            due("none had", x.drop(1), 0);
        }
    }

    /** "0 at first": a burial from field 0 to a church beside it is told by what the row holds. */
    private static void itemsZeroAtFirst() {
        CoffinWays x = Told.parish("c1,20;p0,1,1;n60,7;");
        x.row(0, 0, 40);
        for (int i = 0; i < 40; i++) {
            due("0 at " + i, x.from(0, i), 1);
        }
        for (int i = 0; i < 40; i++) {
            x.set(0, i, 1);
        }
        due("not 0", x.from(0, 39), 0);
        x.row(0, 0, 3);
        due("0 again", x.from(0, 2), 1);
        x.row(0, 2, 40);
        for (int i = 0; i < 40; i++) {
            due("0 again at " + i, x.from(0, i), 1);
        }
        x.set(0, 5, 1);
        x.drop(0);
        x.row(0, 2, 6);
        due("0 behind a drop", x.from(0, 5), 1);
        CoffinWays other = Told.parish("c1,20;p0,1,1;n60,7;");
        other.row(0, 1, 2);
        other.row(1, 1, 2);
        other.set(0, 0, 1);
        due("another row is not touched", other.from(1, 0), 1);
    }

    /** "THE TAPE has at most 140 bytes, that come one by one". */
    private static void tapeMost() {
        CoffinWays x = new CoffinWays();
        for (int n = 1; n <= 140; n++) {
            due("byte " + n, x.feed(n % 2 == 0 ? 0 : 255), n);
            due("bytes", x.count(7), n);
        }
        due("byte 141", x.feed('c'), Told.FULL);
        due("bytes", x.count(7), 140);
        due("read", x.parish(), -1000100);
        due("bytes", x.count(7), 0);
        due("room again", x.feed('c'), 1);
    }

    /** The last byte of the 140 counts: a text that just fits is read whole. */
    private static void tapeFullOfText() {
        String paths = "c00,20;p0,1,1;p0,2,1;p0,3,1;p0,4,1;p0,5,1;p0,6,1;p0,7,1;p1,2,1;p1,3,1;";
        String full = paths + "p01,04,1;p01,05,01;p01,06,01;" + "n01,01;c01,01;f01,01;s01,01;m01,01;n1,07;";
        due("a text of 140 bytes", full.length(), 140);
        reads(full, 12);
        CoffinWays x = Told.parish(full);
        due("the last witness's home", x.witness(5, 1), 7);
        due("a full tape can be fed anew", Told.tell(x, full), 12);
        CoffinWays y = new CoffinWays();
        for (int i = 0; i < 139; i++) {
            y.feed(full.charAt(i));
        }
        due("without the last byte", y.parish(), -1000100 - 139);
        due("without the last byte", y.fault(), 1);
        fails(full.replace("n1,07;", "n01,07"), 140, 1);
    }

    private static boolean isFigure(int b) {
        return b >= '0' && b <= '9';
    }

    private static void failsBehind(String text, int b, int place, int number) {
        fails(text + (char) b, place, number);
    }

    /** "TOKENS: letters a to z (each by itself), NUMBERS, SIGNS , and ; nothing else". */
    private static void everyByteFirst() {
        for (int b = 0; b <= 255; b++) {
            failsBehind("", b, b == 'c' ? 1 : 0, 1);
        }
        fails("cc", 1, 1);
    }

    /** Behind a whole text only letters that begin a part can stand. */
    private static void everyByteBehind() {
        for (int b = 0; b <= 255; b++) {
            failsBehind(LAW, b, b == 'p' ? 7 : 6, 1);
            failsBehind(LAW + PATH, b, "pncfsm".indexOf(b) >= 0 ? 14 : 13, 1);
            failsBehind(LAW + PATH + "n0,0;", b, "ncfsm".indexOf(b) >= 0 ? 19 : 18, 1);
        }
    }

    /** Figures are 0 to 9 alone, so a byte beside them ends a number. */
    private static void everyByteWithinNumbers() {
        for (int b = 0; b <= 255; b++) {
            boolean field = b >= '0' && b <= '7';
            failsBehind("c0", b, b == ',' ? 3 : field ? 3 : isFigure(b) ? 1 : 2, isFigure(b) && !field ? 2 : 1);
            failsBehind("c", b, field ? 2 : 1, isFigure(b) && !field ? 2 : 1);
            failsBehind("c0,2", b, isFigure(b) ? 5 : 3, isFigure(b) ? 1 : 2);
            failsBehind("c0,20", b, b == ';' ? 6 : isFigure(b) ? 3 : 5, 1);
        }
    }

    /** "NUMBERS (figures, 2 at most)"; "a run of three figures, at its first". */
    private static void figuresTwoAtMost() {
        reads("c00,20;p00,01,01;n00,00;", 1);
        CoffinWays x = Told.parish("c07,20;p07,06,09;n09,05;");
        due("church", x.stand(3), 7);
        due("a", x.path(0, 0), 7);
        due("b", x.path(0, 1), 6);
        due("long", x.path(0, 2), 9);
        due("age", x.witness(0, 0), 9);
        due("home", x.witness(0, 1), 5);
        fails("c000,20;", 1, 1);
        fails("c0,020;", 3, 1);
        fails(LAW + "p000,1,1;", 7, 1);
        fails(LAW + "p0,001,1;", 9, 1);
        fails(LAW + "p0,1,001;", 11, 1);
        fails(LAW + PATH + "n000,0;", 14, 1);
        fails(LAW + PATH + "n0,000;", 16, 1);
        fails("c0000000000000000,20;", 1, 1);
        fails("c" + "9".repeat(139), 1, 1);
        fails("999", 0, 1);
        fails(LAW + "000", 6, 1);
        fails(LAW + PATH + "111", 13, 1);
    }

    /** "law: c CHURCH , LIVES ; (a FIELD, 0 to 7; 20 to 90)". */
    private static void law() {
        reads("c0,20;" + PATH, 1);
        reads("c7,90;" + PATH, 1);
        fails("c8,20;" + PATH, 1, 2);
        fails("c99,20;" + PATH, 1, 2);
        fails("c0,19;" + PATH, 3, 2);
        fails("c0,91;" + PATH, 3, 2);
        fails("c0,99;" + PATH, 3, 2);
        fails("c0,0;" + PATH, 3, 2);
        due("church 7", Told.parish("c7,20;p0,1,1;").stand(3), 7);
        due("lives 20", Told.parish("c7,20;p0,1,1;").count(5), 20);
        due("lives 90", Told.parish("c7,90;p0,1,1;").count(5), 90);
        fails(",0,20;", 0, 1);
        fails("c;", 1, 1);
        fails("cc0,20;", 1, 1);
        fails("c0;20;", 2, 1);
        fails("c0c", 2, 1);
        fails("c0,;", 3, 1);
        fails("c0,c", 3, 1);
        fails("c0,20,", 5, 1);
        fails("c0,20p", 5, 1);
    }

    /** "path: p A , B , LONG ; (FIELDS 0 to 7". */
    private static void pathFields() {
        reads(LAW + "p0,7,1;", 1);
        reads(LAW + "p7,0,1;", 1);
        fails(LAW + "p8,0,1;", 7, 2);
        fails(LAW + "p10,0,1;", 7, 2);
        fails(LAW + "p0,8,1;", 9, 2);
        fails(LAW + "p0,99,1;", 9, 2);
        fails(LAW + "p,0,1;", 7, 1);
        fails(LAW + "pp0,1,1;", 7, 1);
        fails(LAW + "p0;1,1;", 8, 1);
        fails(LAW + "p0,,1;", 9, 1);
        fails(LAW + "p0,1;1;", 10, 1);
        fails(LAW + "p0,1,;", 11, 1);
        fails(LAW + "p0,1,1,", 12, 1);
        fails(LAW + "p0,1,1p", 12, 1);
    }

    /** "unlike". */
    private static void pathsUnlike() {
        for (int field = 0; field <= 7; field++) {
            fails(LAW + "p" + field + "," + field + ",1;", 9, 2);
            fails(LAW + "p" + field + ",0" + field + ",1;", 9, 2);
        }
    }

    /** "no two paths between the same": neither the same way round nor the other, nor two parts further on. */
    private static void pathsBetweenTheSame() {
        fails(LAW + "p0,1,1;p0,1,1;", 16, 2);
        fails(LAW + "p0,1,1;p1,0,1;", 16, 2);
        fails(LAW + "p6,7,1;p0,1,1;p2,3,1;p7,6,9;", 30, 2);
        reads(LAW + "p0,1,1;p0,2,1;p1,2,1;p2,3,1;p3,1,1;", 5);
        String[] parts = {"p0,1,1;p0,2,1;p0,3,1;p0,4,1;p0,5,1;p0,6,1;p0,7,1;p1,2,1;p1,3,1;p1,4,1;",
            "p1,5,1;p1,6,1;p1,7,1;p2,3,1;p2,4,1;p2,5,1;p2,6,1;p2,7,1;p3,4,1;p3,5,1;",
            "p3,6,1;p3,7,1;p4,5,1;p4,6,1;p4,7,1;p5,6,1;p5,7,1;p6,7,1;"};
        for (String some : parts) {
            reads(LAW + some, some.length() / 7);
            for (int i = 0; i < some.length(); i += 7) {
                String back = "p" + some.charAt(i + 3) + "," + some.charAt(i + 1) + ",1;";
                fails(LAW + some + back, LAW.length() + some.length() + 3, 2);
            }
        }
    }

    /** "1 to 9". */
    private static void pathLong() {
        reads(LAW + "p0,1,1;", 1);
        reads(LAW + "p0,1,9;", 1);
        fails(LAW + "p0,1,0;", 11, 2);
        fails(LAW + "p0,1,10;", 11, 2);
        fails(LAW + "p0,1,00;", 11, 2);
        due("long 1", Told.parish(LAW + "p0,1,1;").path(0, 2), 1);
        due("long 9", Told.parish(LAW + "p0,1,9;").path(0, 2), 9);
    }

    private static String paths(int n) {
        StringBuilder text = new StringBuilder(LAW);
        for (int i = 0; i < n; i++) {
            text.append(i < 7 ? "p0," + (i + 1) : "p1," + (i - 5)).append(",1;");
        }
        return text.toString();
    }

    /** "PATHS 0 .. 11, 12 at most"; "3 a path more than there is room for (its letter)". */
    private static void pathsMost() {
        for (int n = 1; n <= 12; n++) {
            reads(paths(n), n);
            CoffinWays x = Told.parish(paths(n));
            due("the last of " + n, x.path(n - 1, 2), 1);
            due("beyond the last of " + n, x.path(n, 2), Told.BAD);
        }
        fails(LAW, 6, 1);
        fails(paths(13), 90, 3);
        fails(paths(12) + "p", 90, 3);
        fails(paths(12) + "p0,1,1;", 90, 3);
        fails(paths(12) + "p999", 90, 3);
        fails(paths(12) + "q", 90, 1);
        reads(paths(12) + "n0,0;", 12);
    }

    /** "each has a GATE, open at first". */
    private static void gatesOpenAtFirst() {
        CoffinWays x = Told.parish(paths(12));
        for (int path = 0; path < 12; path++) {
            due("gate " + path, x.path(path, 3), 0);
        }
        due("gates", x.stand(1), 0);
        for (int path = 0; path < 12; path++) {
            due("lock " + path, x.lock(path, 1), (2 << path) - 1);
        }
        Told.tell(x, paths(12));
        due("open again in another one", x.stand(1), 0);
    }

    /** "witness: SORT AGE , HOME ; (0 to 60". */
    private static void witnessAge() {
        for (char sort : "ncfsm".toCharArray()) {
            reads(LAW + PATH + sort + "0,0;", 1);
            reads(LAW + PATH + sort + "60,0;", 1);
            fails(LAW + PATH + sort + "61,0;", 14, 2);
            fails(LAW + PATH + sort + "99,0;", 14, 2);
            fails(LAW + PATH + sort + ",0;", 14, 1);
            fails(LAW + PATH + sort + "0;0;", 15, 1);
            fails(LAW + PATH + sort + "0,;", 16, 1);
            fails(LAW + PATH + sort + "0,0,", 17, 1);
        }
        due("age 0", Told.parish(LAW + PATH + "n0,0;").witness(0, 0), 0);
        due("age 60", Told.parish(LAW + PATH + "n60,0;").witness(0, 0), 60);
    }

    /** "a FIELD". */
    private static void witnessHome() {
        reads(LAW + PATH + "n0,7;", 1);
        fails(LAW + PATH + "n0,8;", 16, 2);
        fails(LAW + PATH + "n0,10;", 16, 2);
        due("home 7", Told.parish(LAW + PATH + "n0,7;").witness(0, 1), 7);
    }

    /** "SORT: n a neighbour, c a child, f a farmer, s a stranger, m a smith". */
    private static void witnessSorts() {
        String sorts = "ncfsm";
        for (char letter = 'a'; letter <= 'z'; letter++) {
            String text = LAW + PATH + letter + "0,0;";
            if (sorts.indexOf(letter) >= 0) {
                due("kind of " + letter, Told.parish(text).kind(0), sorts.indexOf(letter) + 1);
            } else if (letter == 'p') {
                fails(text, 16, 2);
            } else {
                fails(text, 13, 1);
            }
        }
        fails(LAW + PATH + "N0,0;", 13, 1);
    }

    /** "WITNESSES 0 .. 5, 6 at most"; "3 a witness more than there is room for (its letter)". */
    private static void witnessesMost() {
        for (int n = 0; n <= 6; n++) {
            CoffinWays x = Told.parish(LAW + PATH + "s1,1;".repeat(n));
            due("witnesses", x.count(2), n);
            due("who lives", x.stand(2), (1 << n) - 1);
            due("beyond the last", x.kind(n), Told.BAD);
        }
        for (char sort : "ncfsm".toCharArray()) {
            fails(LAW + PATH + "s1,1;".repeat(6) + sort, 43, 3);
            fails(LAW + PATH + "s1,1;".repeat(6) + sort + "99,99;", 43, 3);
        }
        fails(LAW + PATH + "s1,1;".repeat(6) + "x", 43, 1);
        fails(LAW + PATH + "s1,1;".repeat(6) + "p", 43, 1);
    }

    /** "parish: law path { path } { witness }". */
    private static void orderOfParts() {
        fails(PATH, 0, 1);
        fails("n0,0;", 0, 1);
        fails(LAW + LAW, 6, 1);
        fails(LAW + "n0,0;" + PATH, 6, 1);
        fails(LAW + PATH + "n0,0;p1,2,1;", 18, 1);
        reads(LAW + PATH, 1);
        reads(LAW + PATH + "c0,0;", 1);
        // Behind a path a second law is a child: its age is the church's number, its home what people live.
        fails(LAW + PATH + LAW, 16, 2);
        reads(LAW + PATH + "c60,7;n0,0;", 1);
    }

    /** "A PARISH that is read stands in place of the one before: YEAR 0, nobody SAW anything; no ACT can be undone". */
    private static void inPlaceOfTheOneBefore() {
        CoffinWays x = Told.parish(paths(12) + "s1,1;".repeat(6));
        x.bury(3);
        x.lock(11, 1);
        x.years(2);
        due("another one", Told.tell(x, "c7,90;p7,6,9;m2,6;"), 1);
        due("paths", x.count(1), 1);
        due("witnesses", x.count(2), 1);
        due("year", x.count(3), 0);
        due("ways", x.count(4), 0);
        due("lives", x.count(5), 90);
        due("acts", x.count(6), 0);
        due("undo", x.undo(), Told.STATE);
        due("gates", x.stand(1), 0);
        due("who lives", x.stand(2), 1);
        due("church", x.stand(3), 7);
        due("nobody saw anything", x.witness(0, 3), 0);
        due("age", x.witness(0, 0), 2);
        due("no path more", x.path(1, 0), Told.BAD);
        due("no witness more", x.witness(1, 0), Told.BAD);
        due("no way from where there was one", x.far(1), Told.NONE);
        due("the larger one again", Told.tell(x, paths(12) + "s1,1;".repeat(6)), 12);
        due("nobody saw anything", x.stand(0), 0);
        due("year", x.count(3), 0);
    }

    /** Nothing of what was foretold of the one before, or of one that had a fault, comes to the one that is read. */
    private static void inPlaceOfWhatWasForetold() {
        CoffinWays x = Told.parish("c0,20;p0,1,1;p1,2,1;s0,0;n0,1;");
        x.bury(2);
        x.lock(1, 1);
        x.years(4);
        x.ahead(9);
        x.lost(0);
        x.drawn(20, 1, 0);
        due("a fault", Told.tell(x, "c7,90;p7,6,1;p6,5,1;p5,4,1;m0,6;m61"), -1000100 - 33);
        due("read", Told.tell(x, "c0,20;p0,1,1;p1,2,1;n0,1;s0,0;"), 2);
        due("witnesses", x.count(2), 2);
        due("year", x.count(3), 0);
        due("ways", x.stand(0), 0);
        due("gates", x.stand(1), 0);
        due("who lives", x.stand(2), 3);
        due("age", x.witness(1, 0), 0);
        due("saw", x.witness(0, 3), 0);
        due("through", x.bury(2), 3);
        due("year 0, 1 leave it", x.ahead(2), 3);
    }

    /** "(none at first)". */
    private static void noneAtFirst() {
        CoffinWays x = new CoffinWays();
        due("stand", x.stand(3), Told.STATE);
        due("paths", x.count(1), 0);
        due("witnesses", x.count(2), 0);
        due("path", x.path(0, 0), Told.BAD);
        due("witness", x.witness(0, 0), Told.BAD);
        due("fault", x.fault(), 0);
        due("the empty tape", x.parish(), -1000100);
        due("fault", x.fault(), 1);
        due("still none", x.stand(3), Told.STATE);
    }

    /** "the first TOKEN that has one (its first byte)". */
    private static void firstTokenThatHasOne() {
        fails("c8,99;x", 1, 2);
        fails("c0,20;p8,8,0;", 7, 2);
        fails("c0,20;p0,8,0;?", 9, 2);
        fails("c0,20;p1,1,0;", 9, 2);
        fails("c0,20;p0,1,0?", 11, 2);
        fails("c0,20;p0,1,10?", 11, 2);
        fails(LAW + PATH + "n61,8?", 14, 2);
        fails(paths(12) + "p8", 90, 3);
        fails("c 8,20;", 1, 1);
        fails("c0,200;p8", 3, 1);
    }

    /** "of one TOKEN the least". */
    private static void leastOfOneToken() {
        // Three figures are no token before they are a number that is not as told.
        fails("c999,20;", 1, 1);
        fails(LAW + "p0,999,1;", 9, 1);
        // A number cannot stand there before it is not as told.
        fails("99", 0, 1);
        fails("c0,20 99", 5, 1);
        fails(LAW + PATH + "99", 13, 1);
        // A thirteenth path behind witnesses cannot stand there before it has no room.
        fails(paths(12) + "n0,0;p", 95, 1);
        fails("c0,20;" + "p0,1,1;s1,1;s1,1;s1,1;s1,1;s1,1;s1,1;p1,2,1;", 43, 1);
    }

    /** "the end: how many bytes there are": a good text cut short, wherever no number is cut. */
    private static void endOfTape() {
        String text = "c0,20;p0,1,1;p1,2,9;n20,0;c1,7;";
        for (int n = 0; n <= text.length(); n++) {
            String some = text.substring(0, n);
            if (n == 13 || n == 20 || n == 26 || n == 31) {
                reads(some, n == 13 ? 1 : 2);
            } else if (n == 4) {
                fails(some, 3, 2);
            } else {
                fails(some, n, 1);
            }
        }
    }
}
