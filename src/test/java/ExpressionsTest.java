/** Promises 10, 11 and 18: expressions, their kinds, FAULTS and CREDIT, and safe(). */
public final class ExpressionsTest {
    private static final Checks CHECKS = new Checks("ExpressionsTest");
    private static final long NAN = Checks.real(Double.NaN);

    public static void main(String[] args) {
        wholeNumbers();
        kindsTogether();
        kindsThatCanNotBe();
        boxedNumbers();
        likeness();
        order();
        logic();
        lists();
        listsRefuse();
        conversions();
        floating();
        boxesAndNothing();
        rowsAhead();
        choice();
        away();
        orderOfFaults();
        credit();
        withoutCredit();
        safe();
        CHECKS.end();
    }

    /** Table 0: a WHOLEs, b TINY, c LONGs, d SINGLEs, e REALs, f FLAGS, g BOXES, h LISTS. */
    private static ColumnHouse house() {
        ColumnHouse x = new ColumnHouse();
        x.table(0, 3);
        Checks.column(x, 0, 3, 7, -7, Integer.MIN_VALUE);
        Checks.column(x, 0, 0, 2, 3, -128);
        Checks.column(x, 0, 4, 10, Long.MAX_VALUE, Long.MIN_VALUE);
        Checks.column(x, 0, 5, Checks.single(1.5f), Checks.single(-0f), Checks.single(Float.NaN));
        Checks.column(x, 0, 6, Checks.real(0.25), Checks.real(-2.5), NAN);
        Checks.column(x, 0, 7, 1, 0, 1);
        x.column(0, 8);
        x.box(0, 6, 0, 1, 5);
        x.box(0, 6, 1, 2, Checks.real(1.5));
        x.box(0, 6, 2, 3, Checks.text("txt"));
        x.column(0, 11);
        x.put(0, 7, 0, 2);
        x.item(0, 7, 0, 1, 33);
        x.put(0, 7, 1, 0);
        return x;
    }

    private static void gives(ColumnHouse x, String ex, int kind, long... want) {
        CHECKS.fine(x, "from t0 let " + ex, want.length);
        int column = x.size(6, 1) - 1;
        CHECKS.due(ex + " kind", x.kind(6, column), kind);
        CHECKS.cells(x, ex, column, want);
    }

    /** A FAULT at the place of a part of an expression. */
    private static void refuses(ColumnHouse x, String ex, int fault, String part, int row) {
        CHECKS.fault(x, "from t0 let " + ex, fault, 12 + ex.indexOf(part), row);
    }

    private static void wholeNumbers() {
        ColumnHouse x = house();
        gives(x, "a + b", 3, 9, -4, Integer.MAX_VALUE - 127);
        gives(x, "a - b", 3, 5, -10, Integer.MIN_VALUE + 128);
        gives(x, "a * 2", 3, 14, -14, 0);
        gives(x, "a / 2", 3, 3, -3, Integer.MIN_VALUE / 2);
        gives(x, "a % 2", 3, 1, -1, 0);
        gives(x, "a / -1", 3, -7, 7, Integer.MIN_VALUE);
        gives(x, "a % -1", 3, 0, 0, 0);
        gives(x, "c + 1", 4, 11, Long.MIN_VALUE, Long.MIN_VALUE + 1);
        gives(x, "c / -1l", 4, -10, -Long.MAX_VALUE, Long.MIN_VALUE);
        gives(x, "c % -1", 4, 0, 0, 0);
        gives(x, "c * c", 4, 100, 1, 0);
        gives(x, "-a", 3, -7, 7, Integer.MIN_VALUE);
        gives(x, "-b", 3, -2, -3, 128);
        gives(x, "-c", 4, -10, -Long.MAX_VALUE, Long.MIN_VALUE);
        gives(x, "abs(b)", 3, 2, 3, 128);
        gives(x, "max(a, b)", 3, 7, 3, -128);
        gives(x, "min(a, c)", 4, 7, -7, Long.MIN_VALUE);
        refuses(x, "a / (row - 1)", 6, "/", 1);
        refuses(x, "a % (2 - row)", 6, "%", 2);
        refuses(x, "c / 0", 6, "/", 0);
        gives(x, "e / 0", 6, Checks.real(Double.POSITIVE_INFINITY),
                Checks.real(Double.NEGATIVE_INFINITY), NAN);
    }

    private static void kindsTogether() {
        ColumnHouse x = house();
        gives(x, "b + b", 3, 4, 6, -256);
        gives(x, "sign(a) + b", 3, 9, 65532, -128);
        gives(x, "d + c", 5, Checks.single(11.5f), Checks.single(9.223372e18f),
                Checks.single(Float.NaN));
        gives(x, "d + e", 6, Checks.real(1.75), Checks.real(-2.5), NAN);
        gives(x, "max(d, 0)", 5, Checks.single(1.5f), 0, Checks.single(Float.NaN));
        gives(x, "min(d, 0)", 5, 0, Checks.single(-0f), Checks.single(Float.NaN));
        gives(x, "16777217 = single(16777216)", 7, 1, 1, 1);
    }

    private static void kindsThatCanNotBe() {
        ColumnHouse x = house();
        String[] wrong = {"a + f", "f + a", "a + h", "-f", "-h", "a and f", "f or a", "not a", "a = f",
            "h = a", "f = g", "h < h", "f < f", "a < f", "abs(f)", "abs(g)", "max(a, g)", "min(f, f)",
            "floor(a)", "ceil(c)", "rint(g)", "sqrt(a)", "signum(f)", "ulp(a)", "next(g)", "round(a)",
            "expo(c)", "bits(a)", "bits(g)", "copy(a, e)", "copy(e, a)", "mad(e, e, a)", "mad(a, e, e)",
            "scalb(a, a)", "scalb(e, c)", "scalb(e, e)", "from(b)", "from(e)", "from(f)", "len(a)",
            "len(g)", "list(c)", "list(e)", "list(f)", "with(a, a, a)", "with(h, c, a)", "with(h, a, c)",
            "cat(h, a)", "cat(g, h)", "tiny(h)", "real(h)", "box(f)", "box(h)", "run(f)", "run(g)",
            "run(h)", "if(a, a, a)", "if(f, a, f)", "if(f, a, g)", "if(f, g, h)", "a[0]", "h[c]", "h[f]"};
        for (int i = 0; i < wrong.length; i++) {
            if (i % 20 == 0) {
                x = house();
            }
            String ex = wrong[i];
            boolean binary = ex.charAt(1) == ' ';
            int place = binary ? 2 : ex.charAt(1) == '[' ? 1 : 0;
            CHECKS.fault(x, "from t0 let " + ex, 4, 12 + place, -1);
            CHECKS.fault(x, "from t0 first 0 let " + ex, 4, 20 + place, -1);
        }
    }

    private static void boxedNumbers() {
        ColumnHouse x = house();
        refuses(x, "g + a", 4, "+", 2);
        refuses(x, "a * g", 4, "*", 2);
        refuses(x, "-g", 4, "-", 2);
        refuses(x, "whole(g)", 4, "whole", 2);
        refuses(x, "g < 1", 4, "<", 2);
        CHECKS.fine(x, "from t0 first 2 let g + a let -g let whole(g) let g < 2 let g * b", 2);
        CHECKS.cells(x, "g + a", 8, Checks.real(12), Checks.real(-5.5));
        CHECKS.cells(x, "-g", 9, Checks.real(-5), Checks.real(-1.5));
        CHECKS.cells(x, "whole(g)", 10, 5, 1);
        CHECKS.cells(x, "g < 2", 11, 0, 1);
        CHECKS.due("kind", x.kind(6, 8), 6);
        x.box(0, 6, 0, 0, 0);
        refuses(x, "a + g", 1, "+", 0);
        refuses(x, "g >= a", 1, ">=", 0);
        refuses(x, "real(g)", 1, "real", 0);
        x.box(0, 6, 0, 2, NAN);
        x.box(0, 6, 2, 0, 0);
        refuses(x, "a / g", 1, "/", 2);
        CHECKS.fine(x, "from t0 first 1 let g + a let long(g) let 0 < g", 1);
        CHECKS.cells(x, "a NaN is a number here", 8, NAN);
        CHECKS.cells(x, "long of it", 9, 0);
        CHECKS.cells(x, "0 < it", 10, 0);
        CHECKS.fine(x, "from t0 let box(c) let i + 0 let single(i)", 3);
        CHECKS.cells(x, "LONGs are boxed as REALs", 9, Checks.real(10), Checks.real(0x1p63),
                Checks.real(-0x1p63));
    }

    private static void likeness() {
        ColumnHouse x = house();
        gives(x, "a = 7", 7, 1, 0, 0);
        gives(x, "a # 7", 7, 0, 1, 1);
        gives(x, "e = e", 7, 1, 1, 0);
        gives(x, "e # e", 7, 0, 0, 1);
        gives(x, "d = 0", 7, 0, 1, 0);
        gives(x, "f = (a > 0)", 7, 1, 1, 0);
        gives(x, "h = h", 7, 1, 1, 1);
        gives(x, "h = list(2)", 7, 0, 0, 0);
        gives(x, "h = with(list(2), 1, 33)", 7, 1, 0, 0);
        gives(x, "h # list(0)", 7, 1, 0, 1);
        gives(x, "g = 5", 7, 1, 0, 0);
        gives(x, "1.5f = g", 7, 0, 1, 0);
        gives(x, "g = 'txt'", 7, 0, 0, 1);
        gives(x, "g # 'tx'", 7, 1, 1, 1);
        gives(x, "g = nil", 7, 0, 0, 0);
        gives(x, "nil = nil", 7, 1, 1, 1);
        gives(x, "nil = e", 7, 0, 0, 0);
        gives(x, "box(e) = box(e)", 7, 1, 1, 0);
        gives(x, "box(e) = e", 7, 1, 1, 0);
        gives(x, "box(c) = c", 7, 1, 1, 1);
        gives(x, "box(a) = real(a)", 7, 1, 1, 1);
    }

    private static void order() {
        ColumnHouse x = house();
        gives(x, "a < b", 7, 0, 1, 1);
        gives(x, "a <= -7", 7, 0, 1, 1);
        gives(x, "a > c", 7, 0, 0, 1);
        gives(x, "d >= 0", 7, 1, 1, 0);
        gives(x, "d < 0", 7, 0, 0, 0);
        gives(x, "'ab' < 'abc'", 7, 1, 1, 1);
        gives(x, "'b' > 'abc'", 7, 1, 1, 1);
        gives(x, "'' <= ''", 7, 1, 1, 1);
        gives(x, "box(a) < box(b)", 7, 0, 1, 1);
        gives(x, "box(e) >= box(e)", 7, 1, 1, 0);
        refuses(x, "g < g + 0", 4, "+", 2);
        refuses(x, "g < box(1)", 4, "<", 2);
        refuses(x, "g < nil", 1, "<", 0);
        refuses(x, "nil < g", 1, "<", 0);
        refuses(x, "g < 'a'", 4, "<", 0);
        refuses(x, "'a' < 1", 4, "<", 0);
        refuses(x, "if(row = 1, g, 'a') < if(row = 2, nil, 'a')", 4, "<", 1);
        refuses(x, "if(row = 2, g, nil) < 'a'", 1, "<", 0);
        gives(x, "g >= if(row = 2, 'txt', box(1))", 7, 1, 1, 1);
    }

    private static void logic() {
        ColumnHouse x = house();
        gives(x, "f and a > 0", 7, 1, 0, 0);
        gives(x, "f or a < 0", 7, 1, 1, 1);
        gives(x, "not f", 7, 0, 1, 0);
        refuses(x, "1 = 1 or a / 0 = 0", 6, "/", 0);
        refuses(x, "1 = 2 and a / 0 = 0", 6, "/", 0);
    }

    private static void lists() {
        ColumnHouse x = house();
        gives(x, "list(row)", 11, 0, 1, 2);
        gives(x, "list(20)[19]", 3, 0, 0, 0);
        gives(x, "len(list(row * 10))", 3, 0, 10, 20);
        gives(x, "with(list(2), b - b, a)[0]", 3, 7, -7, Integer.MIN_VALUE);
        gives(x, "len(cat(list(row), list(18)))", 3, 18, 19, 20);
        gives(x, "cat(with(list(1), 0, 4), with(list(1), 0, 5))[1]", 3, 5, 5, 5);
        CHECKS.fine(x, "from t0 let list(2) let with(i, 0, 9)", 3);
        CHECKS.due("what it is like stays", x.number(6, 8, 0, 0), 0);
        CHECKS.due("but for the one", x.number(6, 9, 0, 0), 9);
    }

    private static void listsRefuse() {
        ColumnHouse x = house();
        refuses(x, "h[0]", 1, "[", 2);
        refuses(x, "len(h)", 1, "len", 2);
        refuses(x, "with(h, 0, 0)", 1, "with", 2);
        refuses(x, "cat(h, list(1))", 1, "cat", 2);
        refuses(x, "cat(list(1), h)", 1, "cat", 2);
        refuses(x, "list(1)[row]", 2, "[", 1);
        refuses(x, "list(1)[-row]", 2, "[", 1);
        refuses(x, "with(list(2), row, 1)", 2, "with", 2);
        refuses(x, "list(1 - row)", 3, "list", 2);
        refuses(x, "list(19 + row)", 7, "list", 2);
        refuses(x, "cat(list(20), list(row))", 7, "cat", 1);
        refuses(x, "h[9]", 1, "[", 2);
        CHECKS.fine(x, "from t0 first 2 let h", 2);
        CHECKS.fault(x, "from t0 first 2 let h[1]", 2, 21, 1);
    }

    private static void conversions() {
        ColumnHouse x = house();
        gives(x, "tiny(a)", 0, 7, -7, 0);
        gives(x, "sign(a)", 1, 7, 65529, 0);
        gives(x, "small(c)", 2, 10, -1, 0);
        gives(x, "whole(c)", 3, 10, -1, 0);
        gives(x, "long(a)", 4, 7, -7, Integer.MIN_VALUE);
        gives(x, "tiny(e * 1000)", 0, (byte) 250, (byte) -2500, 0);
        gives(x, "tiny(real(c))", 0, 10, -1, 0);
        gives(x, "whole(real(c))", 3, 10, Integer.MAX_VALUE, Integer.MIN_VALUE);
        gives(x, "long(real(c) * 2)", 4, 20, Long.MAX_VALUE, Long.MIN_VALUE);
        gives(x, "tiny(f)", 0, 1, 0, 1);
        gives(x, "real(f)", 6, Checks.real(1), 0, Checks.real(1));
        gives(x, "single(c)", 5, Checks.single(10), Checks.single(0x1p63f), Checks.single(-0x1p63f));
        gives(x, "single(16777217)", 5, Checks.single(0x1p24f), Checks.single(0x1p24f),
                Checks.single(0x1p24f));
        gives(x, "single(9007199791611905l)", 5, Checks.single((float) 9007199791611905L),
                Checks.single((float) 9007199791611905L), Checks.single((float) 9007199791611905L));
    }

    private static void floating() {
        ColumnHouse x = house();
        gives(x, "floor(e)", 6, 0, Checks.real(-3), NAN);
        gives(x, "ceil(e)", 6, Checks.real(1), Checks.real(-2), NAN);
        gives(x, "rint(e)", 6, 0, Checks.real(-2), NAN);
        gives(x, "round(e)", 4, 0, -2, 0);
        gives(x, "round(d)", 3, 2, 0, 0);
        gives(x, "expo(d)", 3, 0, -127, 128);
        gives(x, "expo(e)", 3, -2, 1, 1024);
        gives(x, "sqrt(d)", 5, Checks.single((float) Math.sqrt(1.5)), Checks.single(-0f),
                Checks.single(Float.NaN));
        gives(x, "signum(d)", 5, Checks.single(1), Checks.single(-0f), Checks.single(Float.NaN));
        gives(x, "ulp(d)", 5, Checks.single(Math.ulp(1.5f)), 1, Checks.single(Float.NaN));
        gives(x, "next(d)", 5, Checks.single(Math.nextUp(1.5f)), 1, Checks.single(Float.NaN));
        gives(x, "bits(d)", 3, Checks.single(1.5f), Integer.MIN_VALUE, 0x7fc00000);
        gives(x, "bits(e)", 4, Checks.real(0.25), Checks.real(-2.5), NAN);
        gives(x, "from(bits(d))", 5, Checks.single(1.5f), Checks.single(-0f), 0x7fc00000);
        gives(x, "from(-1)", 5, 0x7fc00000, 0x7fc00000, 0x7fc00000);
        gives(x, "copy(e, d)", 6, Checks.real(0.25), Checks.real(-2.5), NAN);
        gives(x, "copy(1.0f, d)", 5, Checks.single(1), Checks.single(-1), Checks.single(1));
        gives(x, "scalb(e, b)", 6, Checks.real(1), Checks.real(-20), NAN);
        gives(x, "scalb(1.5f, -149)", 5, 2, 2, 2);
        gives(x, "mad(e, e, d)", 6, Checks.real(1.5625), Checks.real(6.25), NAN);
        gives(x, "mad(d, d, d)", 5, Checks.single(3.75f), 0, Checks.single(Float.NaN));
    }

    private static void boxesAndNothing() {
        ColumnHouse x = house();
        gives(x, "missing(d)", 7, 0, 0, 1);
        gives(x, "missing(a)", 7, 0, 0, 0);
        gives(x, "missing(f)", 7, 0, 0, 0);
        gives(x, "missing(g)", 7, 0, 0, 0);
        gives(x, "missing(h)", 7, 0, 0, 1);
        gives(x, "missing(nil)", 7, 1, 1, 1);
        gives(x, "missing(box(e))", 7, 0, 0, 0);
        gives(x, "box(b)", 9, 2, 3, -128);
        CHECKS.due("a WHOLE's", x.sort(6, 8, 0), 1);
        gives(x, "box(c)", 9, Checks.real(10), Checks.real(0x1p63), Checks.real(-0x1p63));
        CHECKS.due("a REAL's", x.sort(6, 8, 0), 2);
        gives(x, "box(d)", 9, Checks.real(1.5), Checks.real(-0.0), NAN);
        gives(x, "box(g)", 8, 5, Checks.real(1.5), Checks.text("txt"));
        gives(x, "box('a')", 10, 'a', 'a', 'a');
        gives(x, "nil", 8, 0, 0, 0);
        CHECKS.due("NOTHING", x.sort(6, 8, 0), 0);
        gives(x, "row", 3, 0, 1, 2);
        gives(x, "'hey'", 10, Checks.text("hey"), Checks.text("hey"), Checks.text("hey"));
    }

    private static void rowsAhead() {
        ColumnHouse x = house();
        gives(x, "prior(a)", 3, 7, 7, -7);
        gives(x, "prior(b)", 0, 2, 2, 3);
        gives(x, "prior(h)", 11, 2, 2, 0);
        gives(x, "prior(g)", 8, 5, 5, Checks.real(1.5));
        gives(x, "prior(f)", 7, 1, 1, 0);
        gives(x, "run(b)", 3, 2, 5, -123);
        gives(x, "run(a)", 3, 7, 0, Integer.MIN_VALUE);
        gives(x, "run(c)", 4, 10, Long.MIN_VALUE + 9, 9);
        gives(x, "run(d)", 5, Checks.single(1.5f), Checks.single(1.5f), Checks.single(Float.NaN));
        gives(x, "run(0.1f)", 5, Checks.single(0.1f), Checks.single(0.1f + 0.1f),
                Checks.single(0.1f + 0.1f + 0.1f));
        gives(x, "run(e - e)", 6, 0, 0, NAN);
        gives(x, "run(-0.0)", 6, Checks.real(-0.0), Checks.real(-0.0), Checks.real(-0.0));
    }

    private static void choice() {
        ColumnHouse x = house();
        gives(x, "if(f, a, 1)", 3, 7, 1, Integer.MIN_VALUE);
        gives(x, "if(f, b, b)", 0, 2, 3, -128);
        gives(x, "if(f, b, a)", 3, 2, -7, -128);
        gives(x, "if(f, c, d)", 5, Checks.single(10), Checks.single(-0f), Checks.single(-0x1p63f));
        gives(x, "if(f, f, not f)", 7, 1, 1, 1);
        gives(x, "if(f, 'a', 'b')", 10, 'a', 'b', 'a');
        gives(x, "if(f, 'a', box(1))", 8, 'a', 1, 'a');
        CHECKS.due("a WHOLE's", x.sort(6, 8, 1), 1);
        gives(x, "if(f, g, nil)", 8, 5, 0, Checks.text("txt"));
        gives(x, "if(f, h, list(4))", 11, 2, 4, 0);
        refuses(x, "if(f, a, a / (row - 1))", 6, "/", 1);
    }

    private static void away() {
        ColumnHouse x = house();
        for (int c = 0; c < 8; c++) {
            x.away(0, c, true);
        }
        String[] all = {"+ a + 1", "+ 1 + a", "- -a", "= a = 1", "# nil # g", "< 1 < a", "< nil < g",
            "and f and 1=1", "or 1=1 or f", "not not f", "[ h[0]", "[ list(1)[a]", "len len(h)",
            "list list(a)", "with with(h, 0, 0)", "with with(list(1), a, 0)",
            "with with(list(1), 0, a)", "cat cat(h, list(1))", "cat cat(list(1), h)", "tiny tiny(a)",
            "real real(f)", "abs abs(a)", "max max(a, 1)", "min min(1, a)", "floor floor(e)",
            "round round(d)", "copy copy(e, 1.0)", "copy copy(1.0, e)", "mad mad(1.0, 1.0, e)",
            "scalb scalb(1.0, a)", "from from(a)", "missing missing(a)", "box box(g)", "prior prior(h)",
            "run run(a)", "if if(f, 1, 1)", "if if(1=1, a, 1)", "if if(1=1, 1, a)"};
        for (int i = 0; i < all.length; i++) {
            if (i == 20) {
                x = house();
                for (int c = 0; c < 8; c++) {
                    x.away(0, c, true);
                }
            }
            String part = all[i].substring(0, all[i].indexOf(' '));
            String ex = all[i].substring(part.length() + 1);
            int place = part.equals("list") ? 0 : ex.indexOf(part);
            CHECKS.fault(x, "from t0 let " + ex, 1, 12 + place, 0);
        }
        x.table(0, 0);
        x.column(0, 3);
        x.away(0, 0, true);
        gives(x, "a + 1", 3);
        gives(x, "prior(a)", 3);
        x.column(0, 8);
        x.away(0, 1, true);
        gives(x, "box(b)", 8);
        gives(x, "if(1=1, b, b)", 8);
        gives(x, "b", 24);
    }

    private static void orderOfFaults() {
        ColumnHouse x = house();
        refuses(x, "a / 0 + j", 6, "/", 0);
        refuses(x, "j + a / 0", 2, "j", -1);
        refuses(x, "h[j]", 2, "j", -1);
        x.away(0, 0, true);
        refuses(x, "a + f", 4, "+", -1);
        refuses(x, "g + a", 4, "+", 2);
        refuses(x, "a + g", 1, "+", 0);
        refuses(x, "h[a]", 1, "[", 2);
        refuses(x, "g / 0", 4, "/", 2);
        refuses(x, "if(f, a, h)", 4, "if", -1);
        CHECKS.fault(x, "from t0 let b / (row - 1) let b / (row - 2)", 6, 14, 1);
    }

    private static void takes(ColumnHouse x, String ex, int credit) {
        int left = x.credit();
        Checks.ask(x, "from t0 let " + ex);
        CHECKS.due("CREDIT of " + ex, left - x.credit(), 42 + credit);
    }

    private static void credit() {
        ColumnHouse x = house();
        takes(x, "a", 0);
        takes(x, "1", 3);
        takes(x, "1l", 3);
        takes(x, "row", 3);
        takes(x, "nil", 12);
        takes(x, "'a'", 12);
        takes(x, "a + 1", 6);
        takes(x, "-a", 3);
        takes(x, "not f", 3);
        takes(x, "a = a", 3);
        takes(x, "g = g", 3);
        takes(x, "box(a)", 12);
        takes(x, "box(f)", 12);
        takes(x, "list(b)", 12);
        takes(x, "cat(h, h)", 12);
        takes(x, "with(h, a, a)", 12);
        takes(x, "prior(a)", 3);
        takes(x, "prior(g)", 12);
        takes(x, "prior(h)", 12);
        takes(x, "missing(h)", 3);
        takes(x, "if(f, a, a)", 3);
        takes(x, "if(f, g, g)", 12);
        takes(x, "if(f, h, a)", 12);
        takes(x, "if(f, a, h)", 3);
        takes(x, "safe(a, b)", 0);
        takes(x, "safe(a + 1, b + 1)", 6);
        takes(x, "safe(a / 0, nil)", 6 + 200 + 12);
        takes(x, "safe(j, a)", 200);
        takes(x, "j", 0);
        takes(x, "a + f", 3);
        takes(x, "h[0]", 6);
    }

    private static void withoutCredit() {
        ColumnHouse x = house();
        Checks.spendTo(x, 45);
        CHECKS.fault(x, "from t0 let a + 1", 8, 14, -1);
        CHECKS.due("what was taken ahead", x.credit(), 0);
        x = house();
        Checks.spendTo(x, 44);
        CHECKS.fault(x, "from t0 let a + 1", 8, 16, -1);
        CHECKS.due("nothing is taken then", x.credit(), 2);
        x = house();
        Checks.spendTo(x, 44);
        CHECKS.fault(x, "from t0 let a + f", 8, 14, -1);
        x = house();
        Checks.spendTo(x, 53);
        CHECKS.fault(x, "from t0 let safe(nil, a)", 8, 17, -1);
        CHECKS.due("8 is not taken up", x.fault(3), 0);
        x = house();
        Checks.spendTo(x, 42);
        CHECKS.fine(x, "from t0 let a let b", 3);
        x = house();
        Checks.spendTo(x, 0);
        x.table(0, 0);
        x.column(0, 3);
        CHECKS.fine(x, "from t0 let a + nil where a = 1", 0);
    }

    private static void safe() {
        ColumnHouse x = house();
        gives(x, "safe(a / 0, 5)", 3, 5, 5, 5);
        CHECKS.due("taken up", x.fault(3), 1);
        gives(x, "safe(a, j)", 3, 7, -7, Integer.MIN_VALUE);
        CHECKS.due("taken up", x.fault(3), 0);
        gives(x, "safe(safe(a / 0, b % 0), a)", 3, 7, -7, Integer.MIN_VALUE);
        CHECKS.due("taken up", x.fault(3), 2);
        gives(x, "1 + safe(2 + h[0], 3 + safe(j, 4)) * 2", 3, 15, 15, 15);
        CHECKS.due("taken up", x.fault(3), 2);
        gives(x, "safe(a + f, f)", 7, 1, 0, 1);
        gives(x, "safe(list(21), h)", 11, 2, 0, 0);
        CHECKS.fault(x, "from t0 let safe(a / 0, b / 0)", 6, 26, 0);
        CHECKS.due("taken up", x.fault(3), 1);
        CHECKS.fault(x, "from t0 where safe(a / 0, a)", 4, 8, -1);
        CHECKS.fine(x, "from t0 where safe(a / 0 = 1, f) group : sum(safe(a / 0, b))", 1);
        CHECKS.cells(x, "in a fold", 0, -126);
        CHECKS.due("taken up", x.fault(3), 2);
        x = house();
        Checks.spendTo(x, 42 + 6 + 199);
        CHECKS.fault(x, "from t0 let safe(a / 0, b)", 6, 19, 0);
        CHECKS.due("not taken up", x.fault(3), 0);
        CHECKS.due("what is left", x.credit(), 199);
        x = house();
        Checks.spendTo(x, 42 + 6 + 200);
        CHECKS.fine(x, "from t0 let safe(a / 0, b)", 3);
        CHECKS.due("what is left", x.credit(), 0);
    }
}
