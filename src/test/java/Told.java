/** What several tests need: parishes that are told, rows that are laid. */
final class Told {
    static final int NONE = -1000000, BAD = -1000001, STATE = -1000002, FULL = -1000003;
    static final int NULL = -1000011, PLACE = -1000012, KIND = -1000013, SIZE = -1000014, STORE = -1000015;
    static final int LOWEST = Integer.MIN_VALUE, HIGHEST = Integer.MAX_VALUE;

    /** Each field but the church has its own path (field less 1), so the ways behind one burial tell the field. */
    static final String STAR = "c0,20;p0,1,1;p0,2,1;p0,3,1;p0,4,1;p0,5,1;p0,6,1;p0,7,1;s0,0;";

    private Told() {
    }

    static int tell(CoffinWays x, String text) {
        for (int i = 0; i < text.length(); i++) {
            x.feed(text.charAt(i));
        }
        return x.parish();
    }

    static CoffinWays parish(String text) {
        CoffinWays x = new CoffinWays();
        int paths = tell(x, text);
        if (paths < 0) {
            throw new IllegalArgumentException(text + " has a fault: " + paths);
        }
        return x;
    }

    /** A row of these items, in place of what is there. */
    static void lay(CoffinWays x, int row, int lane, int... items) {
        x.row(row, lane, items.length);
        for (int i = 0; i < items.length; i++) {
            x.set(row, i, items[i]);
        }
    }

    /** So that a year is reached in few calls. */
    static void live(CoffinWays x, int years) {
        for (int left = years; left > 0; left -= 24) {
            x.years(Math.min(left, 24));
        }
    }
}
