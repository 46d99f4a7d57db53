/** Terms, part 2, and promises 9 to 16: how a coffin goes, who sees and swears, years, acts, each at its edges. */
public final class LifeEdgesTest {
    private static final Check CHECK = new Check();

    /** From field 7 over 6, 5 .. to church 0. */
    private static final String ROW = "c0,60;p7,6,1;p6,5,1;p5,4,1;p4,3,1;p3,2,1;p2,1,1;p1,0,1;";

    private LifeEdgesTest() {
    }

    public static void main(String[] args) {
        leastLong();
        firstRowOfFields();
        onlyOpenGates();
        neighbourSees();
        childSees();
        farmerSees();
        strangerSees();
        smithSees();
        theDeadDoNotSee();
        swearsAsLongAsItLives();
        wayIfSomebodySwears();
        deadIfMoreThanLives();
        deadFromTheFirst();
        livesNinety();
        agesOfTheDead();
        strangerForgets();
        smithForgets();
        forgetsDeadOrNot();
        yearIsOneMore();
        actsMost();
        actsOldestForgotten();
        actsUndone();
        yearsAreActsEach();
        follow();
        buryRefused();
        yearsRefused();
        yearsFull();
        lockRefused();
        witnessRefused();
        pathRefused();
        standRefused();
        undoRefused();
        CHECK.end();
    }

    private static void due(String call, long got, long want) {
        CHECK.due(call, got, want);
    }

    /** "so that LONG together is least". */
    private static void leastLong() {
        CoffinWays x = Told.parish("c0,20;p1,0,9;p1,2,4;p2,0,4;p3,0,8;p3,2,4;p4,0,7;p4,2,4;");
        due("8 is less than 9", x.goes(1, 1), 2 | 4);
        due("8 is less than 9", x.goes(1, 0), 8);
        due("8 is not less than 8", x.goes(3, 1), 8);
        due("8 is not less than 8", x.goes(3, 0), 8);
        due("7 is less than 8", x.goes(4, 1), 32);
        due("seven paths of 1 are less than one of 9", Told.parish(ROW + "p7,0,9;").goes(7, 1), 127);
        due("seven paths of 1 and one of 7: the first row goes by 0", Told.parish(ROW + "p7,0,7;").goes(7, 1), 128);
        due("the longest that can be", Told.parish("c0,20;p7,6,9;p6,5,9;p5,4,9;p4,3,9;p3,2,9;p2,1,9;p1,0,9;").goes(7, 0), 63);
    }

    /** "of several by the row of FIELDS that is first (by numbers, FIELD by FIELD)". */
    private static void firstRowOfFields() {
        due("the next field decides, not the path's number",
            Told.parish("c0,20;p7,3,1;p3,0,1;p7,2,1;p2,0,1;").goes(7, 1), 4 | 8);
        due("the first field decides, not the later ones",
            Told.parish("c0,20;p7,1,1;p1,6,1;p6,0,1;p7,2,1;p2,3,1;p3,0,1;").goes(7, 1), 1 | 2 | 4);
        due("the second decides if the first is the same",
            Told.parish("c0,20;p7,6,1;p6,5,1;p5,0,1;p6,4,1;p4,0,1;").goes(7, 1), 1 | 8 | 16);
        due("more fields can be first",
            Told.parish("c5,20;p7,6,2;p6,5,2;p7,1,1;p1,2,1;p2,3,1;p3,5,1;").goes(7, 1), 4 | 8 | 16 | 32);
        due("church is a field like others: 5 is behind 1",
            Told.parish("c5,20;p7,5,2;p7,1,1;p1,5,1;").goes(7, 1), 2 | 4);
        due("church is a field like others: 5 is ahead of 6",
            Told.parish("c5,20;p7,5,2;p7,6,1;p6,5,1;").goes(7, 1), 1);
    }

    /** "by PATHS whose GATES are open". */
    private static void onlyOpenGates() {
        CoffinWays x = Told.parish("c0,20;p1,0,1;p1,2,1;p2,0,1;s0,0;");
        x.lock(0, 1);
        due("round about", x.bury(1), 6);
        x.lock(1, 1);
        due("not through", x.bury(1), Told.STATE);
        x.lock(0, 0);
        due("open again", x.bury(1), 7);
    }

    /** "a neighbour those that begin or end at HOME". */
    private static void neighbourSees() {
        CoffinWays x = Told.parish("c0,60;p3,2,1;p2,1,1;p1,0,1;n0,3;n0,2;n0,1;n0,0;n0,4;");
        x.bury(3);
        int[] seen = {1, 3, 6, 4, 0};
        for (int i = 0; i < 5; i++) {
            due("neighbour " + i, x.witness(i, 3), seen[i]);
        }
        CoffinWays y = Told.parish("c0,60;p3,2,1;p2,1,1;p1,0,1;p2,5,1;n0,2;n0,5;");
        y.bury(3);
        due("of its paths alone", y.witness(0, 3), 3);
        due("none beside it", y.witness(1, 3), 0);
        y.lock(3, 1);
        y.bury(1);
        due("what it saw stays", y.witness(0, 3), 3);
    }

    /** "a child all, if any of them does so, or HOME is CHURCH". */
    private static void childSees() {
        CoffinWays x = Told.parish("c0,60;p3,2,1;p2,1,1;p1,0,1;p4,1,1;p5,0,1;c0,3;c0,1;c0,0;c0,4;");
        x.bury(3);
        int[] seen = {7, 7, 7, 0};
        for (int i = 0; i < 4; i++) {
            due("child " + i, x.witness(i, 3), seen[i]);
        }
        x.bury(5);
        due("home is church", x.witness(2, 3), 7 | 16);
        due("home is on none of it", x.witness(1, 3), 7);
    }

    /** "a farmer as a neighbour, but none, if any GATE of a PATH at HOME is locked". */
    private static void farmerSees() {
        CoffinWays x = Told.parish("c0,60;p3,2,1;p2,1,1;p1,0,1;p4,1,1;f0,1;f0,2;f0,4;f0,7;");
        x.lock(3, 1);
        x.bury(3);
        due("a gate at home is locked", x.witness(0, 3), 0);
        due("a gate elsewhere is locked", x.witness(1, 3), 3);
        due("at the other end of it", x.witness(2, 3), 0);
        due("no path at home", x.witness(3, 3), 0);
        x.lock(3, 0);
        x.bury(3);
        due("open: as a neighbour", x.witness(0, 3), 6);
        x.lock(3, 1);
        due("what he saw stays", x.witness(0, 3), 6);
        x.bury(1);
        due("and nothing comes to it", x.witness(0, 3), 6);
    }

    /** "a stranger all of them". */
    private static void strangerSees() {
        CoffinWays x = Told.parish(ROW + "s0,7;s0,0;");
        x.bury(7);
        due("all seven", x.witness(0, 3), 127);
        due("all seven, at church", x.witness(1, 3), 127);
    }

    /** "a smith the first one (from where it is carried) alone". */
    private static void smithSees() {
        CoffinWays x = Told.parish(ROW + "m0,0;m0,7;");
        x.bury(7);
        due("the first one", x.witness(0, 3), 1);
        due("wherever his home is", x.witness(1, 3), 1);
        x.bury(3);
        due("and another", x.witness(0, 3), 17);
        x.bury(1);
        due("the only one is the first", x.witness(0, 3), 17 | 64);
    }

    /** "A witness who lives SEES": one of 21 who was dead saw nothing, and as a child would swear to nothing. */
    private static void theDeadDoNotSee() {
        CoffinWays x = Told.parish("c0,20;p0,1,1;n21,1;s21,1;m30,1;");
        due("no way", x.bury(1), 0);
        Told.lay(x, 0, 2, 0, 0, 0, 1);
        for (int i = 0; i < 3; i++) {
            due("saw nothing " + i, x.who(i, 0, 0, 1), 62);
            due("saw nothing " + i, x.who(i, 0, 2, 1), 0);
        }
    }

    /** "A witness SWEARS to what it SAW, as long as it lives". */
    private static void swearsAsLongAsItLives() {
        CoffinWays x = Told.parish("c0,20;p0,1,1;n19,1;c28,1;");
        x.bury(1);
        x.years(1);
        due("at 20", x.witness(0, 3), 1);
        due("a child at 29", x.witness(1, 3), 1);
        due("who swears", x.path(0, 4), 3);
        x.years(1);
        due("at 21", x.witness(0, 3), 0);
        due("a child at 30", x.witness(1, 3), 0);
        due("who swears", x.path(0, 4), 0);
    }

    /** "A PATH is a WAY, if somebody SWEARS to it". */
    private static void wayIfSomebodySwears() {
        CoffinWays x = Told.parish("c0,20;p0,1,1;p1,2,1;n19,2;n18,2;n17,0;");
        due("both", x.bury(2), 3);
        x.years(3);
        due("one is left for each", x.stand(0), 1);
        due("how many", x.count(4), 1);
        x.years(1);
        due("none", x.stand(0), 0);
        due("how many", x.count(4), 0);
    }

    /** "who is more than LIVES old is dead (a child: than LIVES and 9". */
    private static void deadIfMoreThanLives() {
        CoffinWays x = Told.parish("c0,20;p0,1,1;n0,1;c0,1;f0,1;s0,1;m0,1;");
        x.years(20);
        due("at 20 all live", x.stand(2), 31);
        due("at 21 the child", x.years(1), 2);
        due("at 29 the child", x.years(8), 2);
        due("at 30 nobody", x.years(1), 0);
    }

    /** "also from the first". */
    private static void deadFromTheFirst() {
        String sorts = "ncfsm";
        for (int lives = 20; lives <= 61; lives++) {
            for (int i = 0; i < 5; i++) {
                int last = lives + (i == 1 ? 9 : 0);
                if (last <= 60) {
                    String text = "c0," + lives + ";p0,1,1;" + sorts.charAt(i) + last + ",0;";
                    due("lives: " + text, Told.parish(text).stand(2), 1);
                }
                if (last < 60) {
                    String text = "c0," + lives + ";p0,1,1;" + sorts.charAt(i) + (last + 1) + ",0;";
                    due("dead: " + text, Told.parish(text).stand(2), 0);
                }
            }
        }
    }

    /** The most that LIVES can be. */
    private static void livesNinety() {
        CoffinWays x = Told.parish("c0,90;p0,1,1;n0,1;c0,1;");
        Told.live(x, 90);
        due("at 90", x.stand(2), 3);
        due("at 91", x.years(1), 2);
        due("at 99", x.years(8), 2);
        due("a child's age", x.witness(1, 0), 99);
        due("at 100", x.years(1), 0);
        due("a child's age", x.witness(1, 0), 100);
        x.years(1);
        due("it stays", x.witness(1, 0), 100);
    }

    /** "AGE of each who lives is 1 more". */
    private static void agesOfTheDead() {
        CoffinWays x = Told.parish("c0,20;p0,1,1;n20,1;c29,1;f21,1;s60,1;m0,1;");
        int[] ages = {21, 30, 21, 60, 1};
        x.years(1);
        for (int i = 0; i < 5; i++) {
            due("age " + i, x.witness(i, 0), ages[i]);
        }
        x.years(1);
        ages[4] = 2;
        for (int i = 0; i < 5; i++) {
            due("age " + i, x.witness(i, 0), ages[i]);
        }
    }

    /** "a stranger all, if YEAR leaves 2 by 3 (YEAR as it is ahead)". */
    private static void strangerForgets() {
        CoffinWays x = Told.parish("c0,20;p0,1,1;p1,2,1;s0,0;");
        for (int year = 0; year < 12; year++) {
            due("buried in " + year, x.bury(2), 3);
            x.years(1);
            due("behind year " + year, x.witness(0, 3), year % 3 == 2 ? 0 : 3);
        }
    }

    /** "a smith the first PATH (by numbers) that he SAW", each year; not all, when a stranger forgets all. */
    private static void smithForgets() {
        CoffinWays x = Told.parish(ROW + "m0,0;");
        for (int field = 7; field >= 1; field--) {
            x.bury(field);
        }
        for (int year = 0; year <= 8; year++) {
            due("in year " + year, x.witness(0, 3), 127 >> year << year);
            x.years(1);
        }
        x.bury(1);
        x.years(1);
        due("the only one", x.witness(0, 3), 0);
        x.years(1);
        due("nothing more to forget", x.witness(0, 3), 0);
    }

    /** "FORGETS, dead or not": taken as a child, the dead swear to what they have not forgotten. */
    private static void forgetsDeadOrNot() {
        CoffinWays x = Told.parish("c0,20;p0,1,1;p1,2,1;m20,0;s20,0;n20,1;");
        x.bury(1);
        x.bury(2);
        Told.lay(x, 0, 2, 0, 3, 0, 2, 0, 0);
        due("the smith saw both", x.who(0, 0, 0, 1), 62);
        x.years(1);
        due("dead, he forgot the first", x.who(0, 0, 2, 1), 4);
        due("the dead stranger forgot nothing", x.who(1, 0, 0, 1), 4);
        x.years(1);
        due("dead, he forgot the second", x.who(0, 0, 4, 1), 62);
        due("the dead stranger forgot nothing", x.who(1, 0, 0, 1), 4);
        x.years(1);
        due("dead, the stranger forgot all", x.who(1, 0, 4, 1), 62);
        due("a neighbour forgets nothing", x.who(2, 0, 0, 1), 4);
    }

    /** "YEAR is 1 more". */
    private static void yearIsOneMore() {
        CoffinWays x = Told.parish("c0,20;p0,1,1;");
        due("0", x.count(3), 0);
        x.years(1);
        due("1", x.count(3), 1);
        x.years(24);
        due("25", x.count(3), 25);
    }

    /** "ACTS (24 at most are kept". */
    private static void actsMost() {
        CoffinWays x = Told.parish("c0,20;p0,1,1;s0,0;");
        for (int n = 1; n <= 30; n++) {
            x.lock(0, n % 2);
            due("acts " + n, x.count(6), Math.min(n, 24));
        }
        for (int left = 23; left >= 0; left--) {
            due("undo", x.undo(), left);
            due("acts", x.count(6), left);
        }
        due("undo", x.undo(), Told.STATE);
        due("6 of 30 stay: the gate is open", x.stand(1), 0);
        due("room again", x.lock(0, 1), 1);
        due("acts", x.count(6), 1);
        due("undo", x.undo(), 0);
        due("open", x.stand(1), 0);
    }

    /** "of more the oldest is forgotten": each of the kinds of acts as the 24th and as the 25th from the end. */
    private static void actsOldestForgotten() {
        for (int more = 23; more <= 24; more++) {
            for (int act = 0; act < 4; act++) {
                CoffinWays x = Told.parish("c0,20;p0,1,1;p1,2,1;n21,1;n0,1;");
                int[] before = seen(x);
                due("act", act(x, act), 1);
                int[] behind = seen(x);
                for (int k = 0; k < more; k++) {
                    x.lock(1, 1 - k % 2);
                }
                due("acts", x.count(6), 24);
                for (int k = 0; k < 24; k++) {
                    due("undo", x.undo(), 23 - k);
                }
                int[] left = seen(x);
                for (int k = 0; k < left.length; k++) {
                    due("act " + act + " with " + more + " more, part " + k, left[k], more == 23 ? before[k] : behind[k]);
                }
            }
        }
    }

    private static int act(CoffinWays x, int act) {
        switch (act) {
            case 0: return x.bury(1);
            case 1: return x.years(1) - 1;
            case 2: return x.lock(0, 1);
            default: return x.follow(0) - 2;
        }
    }

    private static int[] seen(CoffinWays x) {
        return new int[] {x.stand(0), x.stand(1) & 1, x.stand(2), x.count(3), x.witness(0, 0), x.witness(1, 0),
            x.witness(1, 3)};
    }

    /** "each can be undone, the latest first". */
    private static void actsUndone() {
        CoffinWays x = Told.parish("c0,20;p0,1,1;p1,2,1;n20,1;s0,0;m0,0;c28,0;");
        x.bury(2);
        x.years(3);
        x.follow(0);
        x.bury(1);
        x.lock(1, 1);
        x.lock(1, 0);
        due("acts", x.count(6), 8);
        due("opened: undone", x.undo(), 7);
        due("locked", x.stand(1), 2);
        due("locked: undone", x.undo(), 6);
        due("open", x.stand(1), 0);
        due("ways", x.stand(0), 1);
        due("a burial: undone", x.undo(), 5);
        due("ways", x.stand(0), 0);
        due("follow: undone", x.undo(), 4);
        due("dead", x.witness(0, 2), 0);
        due("age", x.witness(0, 0), 21);
        due("the child is dead", x.witness(3, 2), 0);
        due("a year: undone", x.undo(), 3);
        due("year", x.count(3), 2);
        due("the stranger knows again", x.witness(1, 3), 3);
        due("the child is dead yet", x.witness(3, 2), 0);
        due("a year: undone", x.undo(), 2);
        due("the child lives again", x.witness(3, 3), 3);
        due("the neighbour is dead yet", x.witness(0, 2), 0);
        due("a year: undone", x.undo(), 1);
        due("the neighbour lives again", x.witness(0, 3), 3);
        due("the smith knows again", x.witness(2, 3), 2);
        due("year", x.count(3), 0);
        due("a burial: undone", x.undo(), 0);
        due("ways", x.stand(0), 0);
    }

    /** "n YEARS (1 to 24), an ACT each". */
    private static void yearsAreActsEach() {
        for (int n = 1; n <= 24; n++) {
            CoffinWays x = Told.parish("c0,60;p0,1,1;n0,0;");
            x.years(n);
            due("acts of " + n, x.count(6), n);
            due("year", x.count(3), n);
            due("one undone", x.undo(), n - 1);
            due("year", x.count(3), n - 1);
            due("age", x.witness(0, 0), n - 1);
        }
    }

    /** "a witness who is dead is followed by another one (AGE 0, nothing SEEN, all else alike)". */
    private static void follow() {
        CoffinWays x = Told.parish("c0,20;p0,1,1;p1,2,1;n20,1;c29,1;f20,1;s20,3;m20,2;n19,0;");
        x.bury(2);
        for (int i = 0; i < 6; i++) {
            due("it lives", x.follow(i), Told.STATE);
        }
        due("one of 20 lives", x.years(1), 32);
        int living = 32;
        for (int i = 0; i < 5; i++) {
            int home = x.witness(i, 1);
            living |= 1 << i;
            due("followed", x.follow(i), living);
            due("age", x.witness(i, 0), 0);
            due("home", x.witness(i, 1), home);
            due("lives", x.witness(i, 2), 1);
            due("nothing seen", x.witness(i, 3), 0);
            due("kind", x.kind(i), i + 1);
            due("it lives", x.follow(i), Told.STATE);
        }
        due("another one is not touched", x.witness(5, 0), 20);
        due("another one is not touched", x.witness(5, 3), 1);
        due("acts", x.count(6), 7);
        due("below", x.follow(-1), Told.BAD);
        due("above", x.follow(6), Told.BAD);
        due("far", x.follow(Told.LOWEST), Told.BAD);
        due("far", x.follow(Told.HIGHEST), Told.BAD);
        due("no parish", new CoffinWays().follow(0), Told.BAD);
        due("no witness", Told.parish("c0,20;p0,1,1;").follow(0), Told.BAD);
        x.bury(1);
        due("the one who came sees", x.witness(0, 3), 1);
    }

    /** Promise 10: "BAD (0 to 7); STATE: no PARISH (ahead of BAD), it does not come through, from CHURCH". */
    private static void buryRefused() {
        CoffinWays none = new CoffinWays();
        for (int field : new int[] {0, 7, -1, 8, Told.LOWEST, Told.HIGHEST}) {
            due("no parish: bury " + field, none.bury(field), Told.STATE);
        }
        CoffinWays x = Told.parish("c7,20;p7,0,1;p0,1,1;s0,0;");
        due("field 0", x.bury(0), 1);
        due("from church", x.bury(7), Told.STATE);
        due("no path there", x.bury(2), Told.STATE);
        due("below", x.bury(-1), Told.BAD);
        due("above", x.bury(8), Told.BAD);
        due("far below", x.bury(Told.LOWEST), Told.BAD);
        due("far above", x.bury(Told.HIGHEST), Told.BAD);
        x.lock(0, 1);
        due("locked", x.bury(0), Told.STATE);
        due("locked further on", x.bury(1), Told.STATE);
        due("field 7", Told.parish("c0,20;p7,0,1;s0,0;").bury(7), 1);
        due("acts", x.count(6), 2);
        due("nobody swears", Told.parish("c0,20;p7,0,1;").bury(7), 0);
    }

    /** Promise 11: "n YEARS (1 to 24): who lives (bits). BAD; STATE: no PARISH (ahead of BAD)". */
    private static void yearsRefused() {
        CoffinWays none = new CoffinWays();
        for (int n : new int[] {0, 1, 24, 25, -1, Told.LOWEST, Told.HIGHEST}) {
            due("no parish: years " + n, none.years(n), Told.STATE);
        }
        CoffinWays x = Told.parish("c0,20;p0,1,1;n0,0;");
        due("none", x.years(0), Told.BAD);
        due("fewer", x.years(-1), Told.BAD);
        due("25", x.years(25), Told.BAD);
        due("far", x.years(Told.LOWEST), Told.BAD);
        due("far", x.years(Told.HIGHEST), Told.BAD);
        due("year", x.count(3), 0);
        due("acts", x.count(6), 0);
        due("one", x.years(1), 1);
        due("24", x.years(24), 0);
        due("year", x.count(3), 25);
    }

    /** Promise 11: "FULL: YEAR would be above 999". */
    private static void yearsFull() {
        for (int n = 1; n <= 24; n++) {
            CoffinWays x = Told.parish("c0,20;p0,1,1;n0,0;");
            Told.live(x, 999 - n);
            due("one too many", n < 24 ? x.years(n + 1) : Told.FULL, Told.FULL);
            due("bad ahead of full", x.years(25), Told.BAD);
            due("year", x.count(3), 999 - n);
            due("just 999", x.years(n), 0);
            due("year", x.count(3), 999);
            due("full", x.years(1), Told.FULL);
            due("full", x.years(24), Told.FULL);
            due("bad ahead of full", x.years(0), Told.BAD);
            due("year", x.count(3), 999);
        }
        CoffinWays y = Told.parish("c0,20;p0,1,1;s0,0;");
        Told.live(y, 999);
        due("other acts go on", y.follow(0), 1);
        due("other acts go on", y.bury(1), 1);
        due("foretold beyond 999: year 999 leaves 0", y.ahead(1), 1);
        due("foretold beyond 999: year 1001 leaves 2", y.ahead(3), 0);
        due("foretold beyond 999", y.lost(0), 3);
        due("drawn beyond 999", y.drawn(60, 1, 0), 0);
        due("year", y.count(3), 999);
        y.undo();
        y.undo();
        y.undo();
        due("back to 998, one goes on", y.years(1), 0);
        due("and no more", y.years(1), Told.FULL);
    }

    /** Promise 12: "A GATE is locked (1), or opened (0): GATES that are locked (bits). BAD; STATE: it is so". */
    private static void lockRefused() {
        CoffinWays x = Told.parish("c0,20;p0,1,1;p0,2,1;p0,3,1;p0,4,1;p0,5,1;p0,6,1;p0,7,1;p1,2,1;p1,3,1;p1,4,1;p1,5,1;p1,6,1;");
        due("open already", x.lock(11, 0), Told.STATE);
        due("the last one", x.lock(11, 1), 2048);
        due("locked already", x.lock(11, 1), Told.STATE);
        due("the first one", x.lock(0, 1), 2049);
        due("opened", x.lock(11, 0), 1);
        due("open already", x.lock(11, 0), Told.STATE);
        due("acts", x.count(6), 3);
        for (int path : new int[] {-1, 12, 32, Told.LOWEST, Told.HIGHEST}) {
            due("path " + path, x.lock(path, 1), Told.BAD);
            due("path " + path, x.lock(path, 0), Told.BAD);
        }
        for (int on : new int[] {-1, 2, Told.LOWEST, Told.HIGHEST}) {
            due("on " + on, x.lock(0, on), Told.BAD);
            due("on " + on, x.lock(1, on), Told.BAD);
        }
        due("no parish", new CoffinWays().lock(0, 0), Told.BAD);
        due("no such path", Told.parish("c0,20;p0,1,1;").lock(1, 1), Told.BAD);
    }

    /** Promise 14: "3 PATHS it SWEARS to (bits; dead: 0). BAD". */
    private static void witnessRefused() {
        CoffinWays x = Told.parish("c0,20;p0,1,1;n20,1;s0,2;f0,3;m0,4;c0,5;n60,7;");
        int[] of5 = {60, 7, 0, 0};
        for (int what = 0; what <= 3; what++) {
            due("the last one " + what, x.witness(5, what), of5[what]);
            for (int one : new int[] {-1, 6, Told.LOWEST, Told.HIGHEST}) {
                due("witness " + one, x.witness(one, what), Told.BAD);
            }
            due("no parish", new CoffinWays().witness(0, what), Told.BAD);
            due("no witness", Told.parish("c0,20;p0,1,1;").witness(0, what), Told.BAD);
        }
        for (int what : new int[] {-1, 4, Told.LOWEST, Told.HIGHEST}) {
            due("what " + what, x.witness(0, what), Told.BAD);
        }
        x.bury(1);
        due("swears", x.witness(0, 3), 1);
        x.years(1);
        due("dead", x.witness(0, 2), 0);
        due("dead: 0", x.witness(0, 3), 0);
    }

    /** Promise 15: "Of a PATH: 0 A, 1 B, 2 LONG, 3 whether locked (1, 0), 4 who SWEARS to it (bits). BAD". */
    private static void pathRefused() {
        CoffinWays x = Told.parish("c0,20;p7,0,9;p1,7,1;n20,7;s0,2;s0,3;s0,4;s0,5;s0,7;");
        x.bury(1);
        x.lock(1, 1);
        int[][] of = {{7, 0, 9, 0, 63}, {1, 7, 1, 1, 63}};
        for (int what = 0; what <= 4; what++) {
            due("path 0 " + what, x.path(0, what), of[0][what]);
            due("path 1 " + what, x.path(1, what), of[1][what]);
            for (int path : new int[] {-1, 2, 12, Told.LOWEST, Told.HIGHEST}) {
                due("path " + path, x.path(path, what), Told.BAD);
            }
            due("no parish", new CoffinWays().path(0, what), Told.BAD);
        }
        for (int what : new int[] {-1, 5, Told.LOWEST, Told.HIGHEST}) {
            due("what " + what, x.path(0, what), Told.BAD);
        }
        x.years(1);
        due("one is dead", x.path(0, 4), 62);
        x.lock(1, 0);
        due("open again", x.path(1, 3), 0);
    }

    /** Promise 16: "0 WAYS, 1 GATES that are locked, 2 who lives, 3 CHURCH. BAD; STATE: no PARISH (ahead of BAD)". */
    private static void standRefused() {
        CoffinWays none = new CoffinWays();
        CoffinWays x = Told.parish("c7,20;p7,0,9;");
        for (int what : new int[] {-1, 4, Told.LOWEST, Told.HIGHEST}) {
            due("no parish: " + what, none.stand(what), Told.STATE);
            due("what " + what, x.stand(what), Told.BAD);
        }
        int[] stands = {0, 0, 0, 7};
        for (int what = 0; what <= 3; what++) {
            due("no parish: " + what, none.stand(what), Told.STATE);
            due("what " + what, x.stand(what), stands[what]);
        }
    }

    /** Promise 9: "how many can be undone yet. STATE: none". */
    private static void undoRefused() {
        due("no parish", new CoffinWays().undo(), Told.STATE);
        CoffinWays x = Told.parish("c0,20;p0,1,1;");
        due("no act", x.undo(), Told.STATE);
        x.lock(0, 1);
        x.bury(1);
        due("a refused act is none", x.undo(), 0);
        due("none again", x.undo(), Told.STATE);
        due("open", x.stand(1), 0);
    }
}
