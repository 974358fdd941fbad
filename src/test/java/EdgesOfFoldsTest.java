/** Boundary cases of PART 3's folds and of the order of sort, each beside its sentence. */
public final class EdgesOfFoldsTest {
    private static final Checks CHECKS = new Checks("EdgesOfFoldsTest");
    private static final long NAN = Checks.real(Double.NaN);
    private static final long SINGLE_NAN = Checks.single(Float.NaN);
    private static final long INFINITE = Checks.real(Double.POSITIVE_INFINITY);

    public static void main(String[] args) {
        sortWholes();
        sortFlags();
        sortFloating();
        sortBoxes();
        sortTexts();
        sortStays();
        counts();
        sumsOfWholes();
        sumsOfFloating();
        extremesOfWholes();
        extremesOfFloating();
        lasts();
        anys();
        foldsThatCanNotBe();
        foldsOfAway();
        foldsWithoutRows();
        CHECKS.end();
    }

    /** Table 0 has one column of a kind. */
    private static ColumnHouse of(int kind, long... values) {
        ColumnHouse x = new ColumnHouse();
        x.table(0, values.length);
        Checks.column(x, 0, kind, values);
        return x;
    }

    private static ColumnHouse ofBoxes(int kind, Object... values) {
        ColumnHouse x = new ColumnHouse();
        x.table(0, values.length);
        Checks.boxes(x, 0, kind, values);
        return x;
    }

    /** The rows as they stand behind sort, upwards and down. */
    private static void sorted(ColumnHouse x, long[] upwards, long[] down) {
        CHECKS.gives(x, "from t0 let row sort a", 3, upwards);
        CHECKS.gives(x, "from t0 let row sort a down", 3, down);
    }

    private static long[] rows(long... rows) {
        return rows;
    }

    private static void sortWholes() {
        CHECKS.says("sort goes upwards: numbers by <,");
        sorted(of(0, 127, -128, 0, -1), rows(1, 3, 2, 0), rows(0, 2, 3, 1));
        sorted(of(1, 65535, 0, 32768, 1), rows(1, 3, 2, 0), rows(0, 2, 3, 1));
        sorted(of(2, 32767, -32768, 0, -1), rows(1, 3, 2, 0), rows(0, 2, 3, 1));
        sorted(of(3, Integer.MAX_VALUE, Integer.MIN_VALUE, 0, -1), rows(1, 3, 2, 0), rows(0, 2, 3, 1));
        sorted(of(4, Long.MAX_VALUE, Long.MIN_VALUE, 0, -1), rows(1, 3, 2, 0), rows(0, 2, 3, 1));
        sorted(of(4, Long.MAX_VALUE, Long.MAX_VALUE - 1), rows(1, 0), rows(0, 1));
        sorted(of(3), rows(), rows());
        sorted(of(3, 5), rows(0), rows(0));
        ColumnHouse x = new ColumnHouse();
        x.table(0, 60);
        x.column(0, 3);
        long[] turned = new long[60];
        for (int r = 0; r < 60; r++) {
            x.put(0, 0, r, 60 - r);
            turned[r] = 59 - r;
        }
        CHECKS.gives(x, "from t0 let row sort a", 3, turned);
    }

    private static void sortFlags() {
        CHECKS.says("false ahead of true,");
        sorted(of(7, 1, 0, 1, 0), rows(1, 3, 0, 2), rows(0, 2, 1, 3));
    }

    private static void sortFloating() {
        CHECKS.says("behind all, upwards and down, a NaN,");
        long inf = Checks.single(Float.POSITIVE_INFINITY);
        long neg = Checks.single(Float.NEGATIVE_INFINITY);
        sorted(of(5, SINGLE_NAN, inf, neg, 0x80000001L, 1), rows(2, 3, 4, 1, 0), rows(1, 4, 3, 2, 0));
        sorted(of(6, NAN, INFINITE, INFINITE | Long.MIN_VALUE, 1L | Long.MIN_VALUE, 1), rows(2, 3, 4, 1, 0),
                rows(1, 4, 3, 2, 0));
        sorted(of(6, Checks.real(1), NAN, Checks.real(-1), NAN, INFINITE), rows(2, 0, 4, 1, 3), rows(4, 0, 2, 1, 3));
        CHECKS.says("rows of which neither is ahead stay in order.");
        sorted(of(6, 0, Long.MIN_VALUE, 0, Long.MIN_VALUE), rows(0, 1, 2, 3), rows(0, 1, 2, 3));
        sorted(of(5, 0x80000000L, 0, 1, 0x80000001L), rows(3, 0, 1, 2), rows(2, 0, 1, 3));
        sorted(of(5, SINGLE_NAN, 0xffffffffL, SINGLE_NAN), rows(0, 1, 2), rows(0, 1, 2));
    }

    private static void sortBoxes() {
        CHECKS.says("of boxes numbers (as REALs) ahead of texts,");
        CHECKS.says("and NOTHING of boxes (behind a NaN's box).");
        sorted(ofBoxes(8, null, Double.NaN, "a", 5, 4.5), rows(4, 3, 2, 1, 0), rows(2, 3, 4, 1, 0));
        sorted(ofBoxes(8, null, "", Double.POSITIVE_INFINITY), rows(2, 1, 0), rows(1, 2, 0));
        sorted(ofBoxes(9, 1, 1.0, -1, Double.NaN, null, 0.5), rows(2, 5, 0, 1, 3, 4), rows(0, 1, 5, 2, 3, 4));
        sorted(ofBoxes(8, null, Double.NaN, null, Double.NaN), rows(1, 3, 0, 2), rows(1, 3, 0, 2));
        sorted(ofBoxes(9, 0, -0.0, 0.0), rows(0, 1, 2), rows(0, 1, 2));
    }

    private static void sortTexts() {
        CHECKS.says("these by bytes, one that another one begins with ahead; down: the other way about;");
        sorted(ofBoxes(10, "b", "ab", "abc", "a", ""), rows(4, 3, 1, 2, 0), rows(0, 2, 1, 3, 4));
        sorted(ofBoxes(10, "aaaaaaab", "aaaaaaaa", "aaaaaaa", "b"), rows(2, 1, 0, 3), rows(3, 0, 1, 2));
        ColumnHouse x = new ColumnHouse();
        x.table(0, 4);
        x.column(0, 10);
        x.box(0, 0, 0, 3, 0x80);
        x.box(0, 0, 1, 3, 0x7f);
        x.box(0, 0, 2, 3, 0xffffffffffffffffL);
        x.box(0, 0, 3, 3, 0x01);
        sorted(x, rows(3, 1, 0, 2), rows(2, 0, 1, 3));
        ColumnHouse y = new ColumnHouse();
        y.table(0, 4);
        y.column(0, 10);
        y.box(0, 0, 0, 3, 0x0101);
        y.box(0, 0, 1, 3, 0x01);
        y.box(0, 0, 2, 3, 0);
        y.box(0, 0, 3, 3, 0x0201010101010101L);
        sorted(y, rows(2, 1, 0, 3), rows(3, 0, 1, 2));
        CHECKS.gives(y, "from t0 let a = ''", 7, 0, 0, 1, 0);
        CHECKS.gives(y, "from t0 let '' < a", 7, 1, 1, 0, 1);
        CHECKS.gives(y, "from t0 group a : count", 3, 1, 1, 1, 1);
        sorted(ofBoxes(10, null, "z", null), rows(1, 0, 2), rows(1, 0, 2));
    }

    private static void sortStays() {
        CHECKS.says("rows of which neither is ahead stay in order.");
        sorted(of(3, 2, 1, 2, 1, 2), rows(1, 3, 0, 2, 4), rows(0, 2, 4, 1, 3));
        sorted(ofBoxes(10, "b", "a", "b", "a"), rows(1, 3, 0, 2), rows(0, 2, 1, 3));
        sorted(ofBoxes(8, 1, "1", 1.0, "1"), rows(0, 2, 1, 3), rows(1, 3, 0, 2));
        ColumnHouse x = of(3, 2, 1, 2, 1);
        CHECKS.gives(x, "from t0 let row sort b down sort a", 3, 3, 1, 2, 0);
    }

    private static void counts() {
        CHECKS.says("count: a WHOLE.");
        CHECKS.gives(of(3, 1), "from t0 group : count", 3, 1);
        CHECKS.gives(of(3, new long[60]), "from t0 group : count", 3, 60);
        CHECKS.gives(of(3), "from t0 group : count", 3);
    }

    private static void sumsOfWholes() {
        CHECKS.says("sum: kinds 0 to 4: a LONG that goes round;");
        CHECKS.gives(of(0, -128, -128), "from t0 group : sum(a)", 4, -256);
        CHECKS.gives(of(1, 65535, 65535), "from t0 group : sum(a)", 4, 131070);
        CHECKS.gives(of(2, 32767, 1), "from t0 group : sum(a)", 4, 32768);
        CHECKS.gives(of(3, Integer.MAX_VALUE, 1), "from t0 group : sum(a)", 4, 1L + Integer.MAX_VALUE);
        CHECKS.gives(of(4, Long.MAX_VALUE, 1), "from t0 group : sum(a)", 4, Long.MIN_VALUE);
        CHECKS.gives(of(4, Long.MIN_VALUE, -1), "from t0 group : sum(a)", 4, Long.MAX_VALUE);
        CHECKS.gives(of(4, Long.MIN_VALUE), "from t0 group : sum(a)", 4, Long.MIN_VALUE);
    }

    private static void sumsOfFloating() {
        CHECKS.says("5, 6: a REAL, from 0 on, one by one.");
        CHECKS.gives(of(5, 0x80000000L), "from t0 group : sum(a)", 6, 0);
        CHECKS.gives(of(6, Long.MIN_VALUE, Long.MIN_VALUE), "from t0 group : sum(a)", 6, 0);
        long most = Checks.single(Float.MAX_VALUE);
        CHECKS.gives(of(5, most, most), "from t0 group : sum(a)", 6, Checks.real(2.0 * Float.MAX_VALUE));
        long dmost = Checks.real(Double.MAX_VALUE);
        CHECKS.gives(of(6, dmost, dmost), "from t0 group : sum(a)", 6, INFINITE);
        CHECKS.gives(of(6, dmost, dmost, Checks.real(-Double.MAX_VALUE)), "from t0 group : sum(a)", 6, INFINITE);
        CHECKS.gives(of(6, INFINITE, INFINITE | Long.MIN_VALUE), "from t0 group : sum(a)", 6, NAN);
        CHECKS.gives(of(6, 1, NAN, 1), "from t0 group : sum(a)", 6, NAN);
        CHECKS.gives(of(6, 1, 1), "from t0 group : sum(a)", 6, 2);
        CHECKS.gives(of(6, Checks.real(0x1p53), Checks.real(1), Checks.real(1)), "from t0 group : sum(a)", 6,
                Checks.real(0x1p53));
        CHECKS.gives(of(6, Checks.real(1), Checks.real(1), Checks.real(0x1p53)), "from t0 group : sum(a)", 6,
                Checks.real(0x1p53 + 2));
    }

    private static void extremesOfWholes() {
        CHECKS.says("max, min: kinds 0 to 6, of their kind (WHOLE at least), one by one as max( ), min( ).");
        long[][] each = {{127, -128}, {65535, 0}, {32767, -32768}, {Integer.MAX_VALUE, Integer.MIN_VALUE},
            {Long.MAX_VALUE, Long.MIN_VALUE}};
        for (int kind = 0; kind <= 4; kind++) {
            long most = each[kind][0];
            long least = each[kind][1];
            int due = Math.max(kind, 3);
            ColumnHouse x = of(kind, most, least, most, least);
            CHECKS.gives(x, "from t0 group : max(a)", due, most);
            CHECKS.gives(x, "from t0 group : min(a)", due, least);
            CHECKS.gives(x, "from t0 first 1 group : min(a)", due, most);
            CHECKS.gives(x, "from t0 sort a first 1 group : max(a)", due, least);
        }
    }

    private static void extremesOfFloating() {
        CHECKS.says("one by one as max( ), min( ).");
        long minus = Long.MIN_VALUE;
        CHECKS.gives(of(6, minus, 0), "from t0 group : max(a)", 6, 0);
        CHECKS.gives(of(6, 0, minus), "from t0 group : max(a)", 6, 0);
        CHECKS.gives(of(6, minus, 0), "from t0 group : min(a)", 6, minus);
        CHECKS.gives(of(6, 0, minus), "from t0 group : min(a)", 6, minus);
        CHECKS.gives(of(6, minus), "from t0 group : max(a)", 6, minus);
        CHECKS.gives(of(6, INFINITE, NAN), "from t0 group : max(a)", 6, NAN);
        CHECKS.gives(of(6, NAN, INFINITE), "from t0 group : min(a)", 6, NAN);
        CHECKS.gives(of(6, NAN), "from t0 group : max(a)", 6, NAN);
        CHECKS.gives(of(5, SINGLE_NAN, 1, 2), "from t0 group : max(a)", 5, SINGLE_NAN);
        CHECKS.gives(of(5, 1, 2), "from t0 group : max(a)", 5, 2);
        CHECKS.gives(of(5, 1, 0x80000001L), "from t0 group : min(a)", 5, (int) 0x80000001L);
        CHECKS.gives(of(6, INFINITE, INFINITE | minus), "from t0 group : min(a)", 6, INFINITE | minus);
    }

    private static void lasts() {
        CHECKS.says("last: the last row's, of any kind.");
        for (int kind = 0; kind <= 11; kind++) {
            ColumnHouse x = new ColumnHouse();
            x.table(0, 3);
            x.column(0, kind);
            x.put(0, 0, 1, 1);
            x.box(0, 0, 1, kind == 10 ? 3 : 1, 1);
            CHECKS.gives(x, "from t0 group : last(a)", kind, 0);
            CHECKS.due("sort", x.sort(6, 0, 0), kind >= 8 ? 0 : -1);
            CHECKS.gives(x, "from t0 first 2 group : last(a)", kind, 1);
            CHECKS.due("sort", x.sort(6, 0, 0), kind < 8 ? -1 : kind == 11 ? 4 : kind == 10 ? 3 : 1);
            CHECKS.gives(x, "from t0 first 1 group : last(a)", kind, 0);
        }
    }

    private static void anys() {
        CHECKS.says("any: FLAGS: whether one is true.");
        CHECKS.gives(of(7, 0, 0, 0), "from t0 group : any(a)", 7, 0);
        CHECKS.gives(of(7, 1, 0, 0), "from t0 group : any(a)", 7, 1);
        CHECKS.gives(of(7, 0, 0, 1), "from t0 group : any(a)", 7, 1);
        CHECKS.gives(of(7, 1, 1, 1), "from t0 group : any(a)", 7, 1);
        CHECKS.gives(of(7, 0), "from t0 group : any(a)", 7, 0);
        CHECKS.gives(of(7, 1), "from t0 group : any(a)", 7, 1);
    }

    private static boolean can(String fold, int kind) {
        return fold.equals("last") || (fold.equals("any") ? kind == 7 : kind <= 6);
    }

    private static void foldsThatCanNotBe() {
        CHECKS.says("any: FLAGS: whether one is true. Others: 4.");
        for (String fold : new String[] {"sum", "max", "min", "last", "any"}) {
            for (int kind = 0; kind <= 11; kind++) {
                for (int rows = 0; rows <= 1; rows++) {
                    ColumnHouse x = new ColumnHouse();
                    x.table(0, rows);
                    x.column(0, kind);
                    String query = "from t0 group : " + fold + "(a)";
                    if (can(fold, kind)) {
                        CHECKS.fine(x, query, rows);
                    } else {
                        CHECKS.fault(x, query, 4, 16, -1);
                    }
                }
            }
        }
    }

    private static void foldsOfAway() {
        CHECKS.says("An ex that is AWAY: 1, row 0 (when there are rows).");
        for (String fold : new String[] {"sum", "max", "min", "last", "any"}) {
            for (int kind = 0; kind <= 11; kind++) {
                for (int rows = 0; rows <= 2; rows++) {
                    ColumnHouse x = new ColumnHouse();
                    x.table(0, rows);
                    x.column(0, kind);
                    x.away(0, 0, true);
                    String query = "from t0 group : count, " + fold + "(a)";
                    if (!can(fold, kind)) {
                        CHECKS.fault(x, query, 4, 23, -1);
                    } else if (rows > 0) {
                        CHECKS.fault(x, query, 1, 23, 0);
                    } else {
                        CHECKS.fine(x, query, 0);
                        CHECKS.holds("what is made is not AWAY", x.kind(6, 1) < 16);
                    }
                }
            }
        }
    }

    private static void foldsWithoutRows() {
        CHECKS.says("FOLDS, of a group's rows in their order:");
        ColumnHouse x = of(6);
        x.column(0, 7);
        x.column(0, 11);
        CHECKS.fine(x, "from t0 group : count, sum(a), max(a), min(a), last(c), any(b)", 0);
        int[] kinds = {3, 6, 6, 6, 11, 7};
        for (int c = 0; c < kinds.length; c++) {
            CHECKS.due("kind of column " + c, x.kind(6, c), kinds[c]);
        }
        ColumnHouse y = of(3, 1, 2, 1, 2, 1);
        CHECKS.gives(y, "from t0 group a : sum(row)", 4, 6, 4);
        CHECKS.gives(y, "from t0 group a : last(row)", 3, 4, 3);
        CHECKS.gives(y, "from t0 group a : max(row)", 3, 4, 3);
        CHECKS.gives(y, "from t0 group a : min(row)", 3, 0, 1);
        CHECKS.gives(y, "from t0 group a : any(row = 3)", 7, 0, 1);
        CHECKS.gives(y, "from t0 group a : count", 3, 3, 2);
    }
}
