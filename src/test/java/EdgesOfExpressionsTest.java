/** Boundary cases of PART 3's expressions: kinds, CREDIT, AWAY, NOTHING, rows, safe; each beside its sentence. */
public final class EdgesOfExpressionsTest {
    private static final Checks CHECKS = new Checks("EdgesOfExpressionsTest");
    private static final String[] MAKERS = {"tiny", "sign", "small", "whole", "long", "single", "real"};
    private static final String[] SHAPERS = {"floor", "ceil", "rint", "signum", "sqrt", "ulp", "next", "round",
            "expo", "bits"};
    private static final String[] RECKONERS = {"+", "-", "*", "/", "%"};
    private static final String[] ORDERS = {"<", "<=", ">", ">="};

    public static void main(String[] args) {
        kindsOfOne();
        kindsOfTwo();
        kindsOfThree();
        operandsFromTheLeft();
        creditOfOperators();
        creditAheadOfKinds();
        awayOperands();
        boxesThatAreNoNumbers();
        boxesInOrder();
        neverAway();
        safeTakesUp();
        safeWithoutCredit();
        safeInOneAnother();
        CHECKS.end();
    }

    private static boolean isBoxed(int kind) {
        return kind >= 8 && kind <= 10;
    }

    private static boolean isNumber(int kind) {
        return kind <= 6 || isBoxed(kind);
    }

    private static boolean isFloating(int kind) {
        return kind == 5 || kind == 6;
    }

    private static int together(int one, int other) {
        return isBoxed(one) || isBoxed(other) ? 6 : Math.max(3, Math.max(one, other));
    }

    /** Table 0 has a column for each kind that is told, all elements 0 or NOTHING. */
    private static ColumnHouse of(int rows, int... kinds) {
        ColumnHouse x = new ColumnHouse();
        x.table(0, rows);
        for (int kind : kinds) {
            x.column(0, kind);
        }
        return x;
    }

    /** What an expression gives of columns of some kinds: a kind, or -4 at its operator. */
    private static void kind(String ex, String operator, int due, int... kinds) {
        String query = "from t0 let " + ex;
        ColumnHouse x = of(0, kinds);
        if (due >= 0) {
            CHECKS.gives(x, query, due);
            return;
        }
        CHECKS.fault(x, query, 4, 12 + ex.indexOf(operator), -1);
        CHECKS.fault(of(2, kinds), query, 4, 12 + ex.indexOf(operator), -1);
    }

    private static void kindsOfOne() {
        CHECKS.says("Then 4, row NONE, when its operands' kinds can't be.");
        for (int k = 0; k <= 11; k++) {
            CHECKS.says("tiny sign small whole long single real: of NUMBERS, and FLAGS (1, 0).");
            for (int m = 0; m < 7; m++) {
                kind(MAKERS[m] + "(a)", MAKERS[m], isNumber(k) || k == 7 ? m : -4, k);
            }
            CHECKS.says("of what is infinite or NaN 128, 1024): of SINGLE and REAL.", "Others: 4.");
            for (String name : SHAPERS) {
                boolean whole = name.equals("round") || name.equals("bits");
                int due = whole ? k - 2 : name.equals("expo") ? 3 : k;
                kind(name + "(a)", name, isFloating(k) ? due : -4, k);
            }
            kind("abs(a)", "abs", k <= 6 ? together(k, k) : -4, k);
            kind("from(a)", "from", k == 3 ? 5 : k == 4 ? 6 : -4, k);
            CHECKS.says("- ahead: likewise");
            kind("-a", "-", isNumber(k) ? together(k, k) : -4, k);
            CHECKS.says("not, and, or: FLAGS");
            kind("not a", "not", k == 7 ? 7 : -4, k);
            CHECKS.says("missing: any kind: FLAGS: whether it is NOTHING.");
            kind("missing(a)", "missing", 7, k);
            CHECKS.says("len: LISTS (NOTHING 1): a WHOLE. list(n): kinds 0 to 3: a list of n zeros");
            kind("len(a)", "len", k == 11 ? 3 : -4, k);
            kind("list(a)", "list", k <= 3 ? 11 : -4, k);
            CHECKS.says("box: kinds 0 to 3: NUMBERS (9) of WHOLEs; 4 to 6: NUMBERS of REALs; boxes: the same; others: "
                    + "4.");
            kind("box(a)", "box", isBoxed(k) ? k : k <= 6 ? 9 : -4, k);
            CHECKS.says("prior(x): any kind:");
            kind("prior(a)", "prior", k, k);
            CHECKS.says("run(x): kinds 0 to 6:");
            kind("run(a)", "run", k <= 6 ? together(k, k) : -4, k);
        }
        CHECKS.says("nil: BOXES, all NOTHING. A TEXT constant: TEXTS. row: a WHOLE, 0 and on.");
        kind("nil", "nil", 8);
        kind("'a'", "'", 10);
        kind("row", "row", 3);
    }

    private static void kindsOfTwo() {
        for (int k = 0; k <= 11; k++) {
            for (int m = 0; m <= 11; m++) {
                boolean numbers = isNumber(k) && isNumber(m);
                CHECKS.says("THE KIND of several together: REAL if one is REAL or BOXED, else SINGLE if one is, else "
                        + "LONG if one is, else WHOLE; all are made that first.");
                for (String sign : RECKONERS) {
                    kind("a " + sign + " b", sign, numbers ? together(k, m) : -4, k, m);
                }
                CHECKS.says("< <= > >=: NUMBERS (a NaN: false);");
                for (String sign : ORDERS) {
                    kind("a " + sign + " b", sign, numbers ? 7 : -4, k, m);
                }
                CHECKS.says("= #: both of kinds 0 to 6 (their kind together; a NaN is like nothing, 0 is like -0); "
                        + "both FLAGS; both LISTS");
                boolean like = numbers || k == m;
                kind("a = b", "=", like ? 7 : -4, k, m);
                kind("a # b", "#", like ? 7 : -4, k, m);
                CHECKS.says("not, and, or: FLAGS");
                kind("a and b", "and", k == 7 && m == 7 ? 7 : -4, k, m);
                kind("a or b", "or", k == 7 && m == 7 ? 7 : -4, k, m);
                CHECKS.says("abs, max, min: kinds 0 to 6, giving their kind together");
                kind("max(a, b)", "max", k <= 6 && m <= 6 ? together(k, m) : -4, k, m);
                kind("min(a, b)", "min", k <= 6 && m <= 6 ? together(k, m) : -4, k, m);
                CHECKS.says("of SINGLE and REAL, their kind together.");
                kind("copy(a, b)", "copy", isFloating(k) && isFloating(m) ? Math.max(k, m) : -4, k, m);
                CHECKS.says("scalb(x, n): x, SINGLE or REAL, by 2 to the n (kinds 0 to 3), rounded once.");
                kind("scalb(a, b)", "scalb", isFloating(k) && m <= 3 ? k : -4, k, m);
                CHECKS.says("cat(x, y): LISTS: both behind one another");
                kind("cat(a, b)", "cat", k == 11 && m == 11 ? 11 : -4, k, m);
                CHECKS.says("x[i]: LISTS and kinds 0 to 3, a WHOLE:");
                kind("a[b]", "[", k == 11 && m <= 3 ? 3 : -4, k, m);
                CHECKS.says("safe(x, y): x;");
                kind("safe(a, b)", "safe", k, k, m);
            }
        }
    }

    private static void kindsOfThree() {
        for (int k = 0; k <= 11; k++) {
            for (int m = 0; m <= 11; m++) {
                CHECKS.says("y and z of one kind, or both of kinds 0 to 6 (their kind together), or both boxes (BOXES "
                        + "when their kinds differ); others 4:");
                int due = k == m ? k : k <= 6 && m <= 6 ? together(k, m) : isBoxed(k) && isBoxed(m) ? 8 : -4;
                kind("if(a, b, c)", "if", due, 7, k, m);
                if (k != 7) {
                    kind("if(a, b, b)", "if", -4, k, m);
                }
                for (int n = 0; n <= 11; n++) {
                    boolean floating = isFloating(k) && isFloating(m) && isFloating(n);
                    CHECKS.says("mad(x, y, z): x * y + z, as * and then + tell it, each one made of their kind "
                            + "together ahead: of SINGLE and REAL, their kind together.");
                    kind("mad(a, b, c)", "mad", floating ? Math.max(k, Math.max(m, n)) : -4, k, m, n);
                    CHECKS.says("with(x, i, v): LISTS, kinds 0 to 3 twice:");
                    kind("with(a, b, c)", "with", k == 11 && m <= 3 && n <= 3 ? 11 : -4, k, m, n);
                }
            }
        }
    }

    private static void operandsFromTheLeft() {
        CHECKS.says("EXPRESSIONS: each of their parts is worked out for all rows at once: operands from the left, then "
                + "the operator:");
        ColumnHouse x = new ColumnHouse();
        x.table(0, 3);
        Checks.column(x, 0, 3, 1, 2, 3);
        x.column(0, 7);
        CHECKS.fault(x, "from t0 let 1 / (a - 3) + 1 / (a - 1)", 6, 14, 2);
        CHECKS.fault(x, "from t0 let 1 / (a - 1) + 1 / (a - 3)", 6, 14, 0);
        CHECKS.fault(x, "from t0 let c + 1 / 0", 2, 12, -1);
        CHECKS.fault(x, "from t0 let 1 / 0 + c", 6, 14, 0);
        CHECKS.fault(x, "from t0 let b + 1 / 0", 6, 18, 0);
        CHECKS.fault(x, "from t0 let max(b, c)", 2, 19, -1);
        CHECKS.fault(x, "from t0 let mad(a, 1 / 0, c)", 6, 21, 0);
        CHECKS.fault(x, "from t0 let if(a, b, 1 / 0)", 6, 23, 0);
        CHECKS.fault(x, "from t0 let list(1)[c]", 2, 20, -1);
        CHECKS.fault(x, "from t0 let list(21)[c]", 7, 12, 0);
        CHECKS.says("(both sides are always worked out)");
        CHECKS.fault(x, "from t0 let 1 = 1 or 1 / 0 = 1", 6, 23, 0);
        CHECKS.fault(x, "from t0 let 1 = 0 and 1 / 0 = 1", 6, 24, 0);
        CHECKS.fault(x, "from t0 let 1 / 0 = 1 and 1 = 0", 6, 14, 0);
        CHECKS.fault(x, "from t0 let if(1 = 1, a, 1 / 0)", 6, 27, 0);
    }

    /** What an expression takes over from's own price, of 3 rows; with one too little: 8 at a part of it. */
    private static void price(int price, String ex, String last, int kind, int... more) {
        int[] kinds = new int[more.length + 1];
        kinds[0] = kind;
        System.arraycopy(more, 0, kinds, 1, more.length);
        int from = 0;
        for (int k : kinds) {
            from += k >= 8 ? 12 : 3;
        }
        String query = "from t0 let " + ex;
        CHECKS.takes(of(3, kinds), query, from + price);
        if (price > 0) {
            ColumnHouse x = of(3, kinds);
            Checks.spendTo(x, from + price - 1);
            CHECKS.fault(x, query, 8, 12 + ex.indexOf(last), -1);
        }
    }

    private static void creditOfOperators() {
        CHECKS.says("it takes CREDIT: one for each row (four when it gives kinds 8 to 11; if: by y; columns and safe "
                + "take none): 8, row NONE, when there is not as much (nothing is taken then).");
        for (int kind = 0; kind <= 11; kind++) {
            int each = kind >= 8 ? 12 : 3;
            price(0, "a", "a", kind);
            price(0, "safe(a, a)", "a", kind);
            price(each, "prior(a)", "prior", kind);
            price(3, "missing(a)", "missing", kind);
            price(3, "a = a", "=", kind);
            price(each, "if(b, a, a)", "if", kind, 7);
            if (isBoxed(kind)) {
                price(12, "box(a)", "box", kind);
            }
        }
        for (int kind = 0; kind <= 6; kind++) {
            for (String sign : RECKONERS) {
                price(3, "a " + sign + " a", sign, kind);
            }
            for (String sign : ORDERS) {
                price(3, "a " + sign + " a", sign, kind);
            }
            for (String name : MAKERS) {
                price(3, name + "(a)", name, kind);
            }
            price(3, "-a", "-", kind);
            price(3, "abs(a)", "abs", kind);
            price(3, "max(a, a)", "max", kind);
            price(3, "run(a)", "run", kind);
            price(12, "box(a)", "box", kind);
        }
        for (int kind = 5; kind <= 6; kind++) {
            for (String name : SHAPERS) {
                price(3, name + "(a)", name, kind);
            }
            price(3, "copy(a, a)", "copy", kind);
            price(3, "mad(a, a, a)", "mad", kind);
            price(3, "scalb(a, b)", "scalb", kind, 3);
        }
        price(3, "from(a)", "from", 3);
        price(3, "not a", "not", 7);
        price(3, "a and a", "and", 7);
        price(3, "a or a", "or", 7);
        price(12, "list(a)", "list", 3);
        price(3, "len(a)", "len", 11);
        price(3, "a[b]", "[", 11, 3);
        price(12, "cat(a, a)", "cat", 11);
        price(12, "with(a, b, b)", "with", 11, 3);
        price(3, "1", "1", 3);
        price(3, "1l", "1l", 3);
        price(3, "1.5", "1.5", 3);
        price(3, "1.5f", "1.5f", 3);
        price(12, "'a'", "'a'", 3);
        price(12, "nil", "nil", 3);
        price(3, "row", "row", 3);
        price(12, "if(a, b, c)", "if", 7, 11, 3);
        price(3, "if(a, c, b)", "if", 7, 11, 3);
        price(12, "if(a, b, c)", "if", 7, 9, 10);
        price(3 + 3, "a + 1", "+", 3);
        price(3 + 3 + 3, "a + a * 1", "+", 3);
    }

    private static void creditAheadOfKinds() {
        CHECKS.says("8, row NONE, when there is not as much (nothing is taken then). Then 4, row NONE, when its "
                + "operands' kinds can't be.");
        ColumnHouse x = of(3, 3, 7);
        Checks.spendTo(x, 6 + 3);
        CHECKS.fault(x, "from t0 let a + b", 4, 14, -1);
        CHECKS.due("it was paid for", x.credit(), 0);
        ColumnHouse y = of(3, 3, 7);
        Checks.spendTo(y, 6 + 2);
        CHECKS.fault(y, "from t0 let a + b", 8, 14, -1);
        CHECKS.due("nothing is taken", y.credit(), 2);
        ColumnHouse z = of(3, 3, 7);
        z.away(0, 0, true);
        Checks.spendTo(z, 6 + 2);
        CHECKS.fault(z, "from t0 let -a", 8, 12, -1);
        CHECKS.says("Then its operands from the left, each row by row: AWAY is 1 (at row 0, when there are rows)");
        ColumnHouse w = of(3, 3, 7);
        w.away(0, 0, true);
        CHECKS.fault(w, "from t0 let a + b", 4, 14, -1);
        CHECKS.fault(w, "from t0 let b + a", 4, 14, -1);
        ColumnHouse none = of(0, 3, 7);
        Checks.spendTo(none, 0);
        CHECKS.fine(none, "from t0 let a + 1 let nil let list(a) let 'a' let 1 / 0", 0);
        CHECKS.fault(none, "from t0 let a + b", 4, 14, -1);
    }

    /** An expression of column a (AWAY) and others: 1 at its operator, row 0; without rows all is well. */
    private static void away(String ex, String operator, int kind, int... more) {
        int[] kinds = new int[more.length + 1];
        kinds[0] = kind;
        System.arraycopy(more, 0, kinds, 1, more.length);
        for (int rows : new int[] {0, 1, 3}) {
            ColumnHouse x = of(rows, kinds);
            x.away(0, 0, true);
            String query = "from t0 let " + ex;
            if (rows > 0) {
                CHECKS.fault(x, query, 1, 12 + ex.indexOf(operator), 0);
            } else {
                CHECKS.fine(x, query, 0);
                CHECKS.holds("what it gives is not AWAY", x.kind(6, x.size(6, 1) - 1) < 16);
            }
        }
    }

    private static void awayOperands() {
        CHECKS.says("AWAY is 1 (at row 0, when there are rows)");
        for (int kind = 0; kind <= 11; kind++) {
            away("missing(a)", "missing", kind);
            away("prior(a)", "prior", kind);
            away("a = a", "=", kind);
            away("a # a", "#", kind);
            away("a = b", "=", kind, kind);
            away("b # a", "#", kind, kind);
            away("if(1 = 1, a, a)", "if", kind);
            away("if(row = 9, a, b)", "if", kind, kind);
            away("if(row = row, b, a)", "if", kind, kind);
            if (isNumber(kind)) {
                for (String sign : RECKONERS) {
                    away("a " + sign + " 1", sign, kind);
                    away("1 " + sign + " a", sign, kind);
                }
                for (String sign : ORDERS) {
                    away("a " + sign + " 1", sign, kind);
                    away("1 " + sign + " a", sign, kind);
                }
                for (String name : MAKERS) {
                    away(name + "(a)", name, kind);
                }
                away("-a", "-", kind);
                away("box(a)", "box", kind);
                away("nil = a", "=", kind);
            }
            if (kind <= 6) {
                away("abs(a)", "abs", kind);
                away("run(a)", "run", kind);
                away("max(a, 1)", "max", kind);
                away("min(1, a)", "min", kind);
            }
            if (kind <= 3) {
                away("list(a)", "list", kind);
                away("list(1)[a]", "[", kind);
                away("with(list(1), a, 1)", "with", kind);
                away("with(list(1), 0, a)", "with", kind);
                away("scalb(1.0, a)", "scalb", kind);
            }
            if (isFloating(kind)) {
                for (String name : SHAPERS) {
                    away(name + "(a)", name, kind);
                }
                away("copy(a, 1.0)", "copy", kind);
                away("copy(1.0, a)", "copy", kind);
                away("scalb(a, 1)", "scalb", kind);
                away("mad(a, 1.0, 1.0)", "mad", kind);
                away("mad(1.0, a, 1.0)", "mad", kind);
                away("mad(1.0, 1.0, a)", "mad", kind);
            }
        }
        away("not a", "not", 7);
        away("a and 1 = 1", "and", 7);
        away("1 = 1 and a", "and", 7);
        away("a or 1 = 1", "or", 7);
        away("1 = 1 or a", "or", 7);
        away("if(a, 1, 1)", "if", 7);
        away("from(a)", "from", 3);
        away("from(a)", "from", 4);
        away("len(a)", "len", 11);
        away("a[0]", "[", 11);
        away("with(a, 0, 0)", "with", 11);
        away("cat(a, list(1))", "cat", 11);
        away("cat(list(1), a)", "cat", 11);
        away("nil < a", "<", 8, 3);
    }

    /** Rows of boxes: two numbers, then one that is none. */
    private static ColumnHouse bad(int kind, Object third) {
        ColumnHouse x = new ColumnHouse();
        x.table(0, 3);
        Checks.boxes(x, 0, kind, kind == 10 ? "t" : (Object) 1, kind == 10 ? "t" : (Object) Double.NaN, third);
        Checks.column(x, 0, 3, 1, 1, 1);
        return x;
    }

    private static void boxesThatAreNoNumbers() {
        CHECKS.says("NUMBERS below are kinds 0 to 6, and BOXED ones (8 to 10): a box of a number as a REAL; NOTHING "
                + "in place of a box: 1, a text's: 4 (a NaN is a number here).");
        String[] all = {"a + b", "b + a", "a - b", "b * a", "a / b", "b % a", "-a", "a < b", "b <= a", "a > b",
                "b >= a", "tiny(a)", "sign(a)", "small(a)", "whole(a)", "long(a)", "single(a)", "real(a)"};
        for (String ex : all) {
            int place = 12 + (ex.charAt(1) == ' ' ? 2 : 0);
            CHECKS.fault(bad(8, null), "from t0 let " + ex, 1, place, 2);
            CHECKS.fault(bad(9, null), "from t0 let " + ex, 1, place, 2);
            CHECKS.fault(bad(8, "7"), "from t0 let " + ex, 4, place, 2);
            CHECKS.fault(bad(8, ""), "from t0 let " + ex, 4, place, 2);
            CHECKS.fault(bad(10, "7"), "from t0 let " + ex, 4, place, 0);
            CHECKS.fine(bad(9, 2.5), "from t0 let " + ex, 3);
            CHECKS.fine(bad(8, 2.5), "from t0 let " + ex, 3);
        }
        ColumnHouse x = bad(9, 2.5);
        long nan = Checks.real(Double.NaN);
        CHECKS.gives(x, "from t0 let a + b", 6, Checks.real(2), nan, Checks.real(3.5));
        CHECKS.gives(x, "from t0 let -a", 6, Checks.real(-1), nan, Checks.real(-2.5));
        CHECKS.gives(x, "from t0 let b >= a", 7, 1, 0, 0);
        CHECKS.gives(x, "from t0 let whole(a)", 3, 1, 0, 2);
        CHECKS.gives(x, "from t0 let single(a)", 5, Checks.single(1), Checks.single(Float.NaN), Checks.single(2.5f));
        CHECKS.says("Then its operands from the left, each row by row:");
        ColumnHouse y = new ColumnHouse();
        y.table(0, 3);
        Checks.boxes(y, 0, 8, 1, 1, "t");
        Checks.boxes(y, 0, 8, null, 1, 1);
        y.column(0, 3);
        y.away(0, 2, true);
        CHECKS.fault(y, "from t0 let a + b", 4, 14, 2);
        CHECKS.fault(y, "from t0 let b + a", 1, 14, 0);
        CHECKS.fault(y, "from t0 let a + c", 4, 14, 2);
        CHECKS.fault(y, "from t0 let c + a", 1, 14, 0);
        CHECKS.fault(y, "from t0 let b < c", 1, 14, 0);
        CHECKS.fault(y, "from t0 let a < c", 4, 14, 2);
        CHECKS.says("Then what it tells itself, row by row.");
        CHECKS.fault(y, "from t0 let a / 0", 4, 14, 2);
        CHECKS.gives(y, "from t0 keep a first 2 let a / 0 keep b", 6,
                Checks.real(Double.POSITIVE_INFINITY), Checks.real(Double.POSITIVE_INFINITY));
    }

    private static void boxesInOrder() {
        CHECKS.says("two BOXED ones row by row: NOTHING on the left 1, on the right 1, both texts by bytes, both "
                + "numbers as REALs, else 4.");
        Object[][] pairs = {{null, 1, -1}, {1, null, -1}, {null, null, -1}, {null, "t", -1}, {"t", null, -1},
                {"t", 1, -4}, {1, "t", -4}, {"", 0, -4}, {Double.NaN, "t", -4}, {1, 2, 1}, {2, 1.5, 0}, {1, 1.0, 0},
                {Double.NaN, 1, 0}, {1, Double.NaN, 0}, {"a", "b", 1}, {"a", "ab", 1}, {"", "a", 1}, {"b", "ab", 0},
                {"a", "a", 0}, {-0.0, 0, 0}, {Integer.MIN_VALUE, Integer.MAX_VALUE, 1}};
        for (Object[] pair : pairs) {
            ColumnHouse x = new ColumnHouse();
            x.table(0, 2);
            Checks.boxes(x, 0, 8, 1, pair[0]);
            Checks.boxes(x, 0, 8, 1, pair[1]);
            int due = (Integer) pair[2];
            if (due < 0) {
                for (String sign : ORDERS) {
                    CHECKS.fault(x, "from t0 let a " + sign + " b", -due, 14, 1);
                }
            } else {
                boolean nan = pair[0].equals(Double.NaN) || pair[1].equals(Double.NaN);
                boolean like = Checks.ask(x, "from t0 where a = b") == 2;
                CHECKS.gives(x, "from t0 let a < b", 7, 0, due);
                CHECKS.gives(x, "from t0 let a >= b", 7, 1, nan ? 0 : 1 - due);
                CHECKS.gives(x, "from t0 let b > a", 7, 0, due);
                CHECKS.gives(x, "from t0 let a <= b", 7, 1, like ? 1 : due);
            }
        }
        ColumnHouse x = new ColumnHouse();
        x.table(0, 3);
        Checks.boxes(x, 0, 8, 1, 1, null);
        Checks.boxes(x, 0, 9, 1, null, 1);
        Checks.boxes(x, 0, 10, null, "t", "t");
        CHECKS.fault(x, "from t0 let a < b", 1, 14, 1);
        CHECKS.fault(x, "from t0 let b < a", 1, 14, 1);
        CHECKS.fault(x, "from t0 let a < c", 1, 14, 0);
        CHECKS.fault(x, "from t0 where row > 0 let a < c", 4, 28, 0);
        x.away(0, 2, true);
        CHECKS.fault(x, "from t0 let a < c", 1, 14, 0);
    }

    private static void neverAway() {
        CHECKS.says("What an operator or function gives is never AWAY (safe gives what its part is).");
        ColumnHouse x = of(2, 3, 3);
        x.away(0, 0, true);
        CHECKS.gives(x, "from t0 let safe(a, b)", 19, 0, 0);
        CHECKS.gives(x, "from t0 let safe(b, a)", 3, 0, 0);
        CHECKS.gives(x, "from t0 let safe(p, a)", 19, 0, 0);
        CHECKS.gives(x, "from t0 let safe(p, safe(a, b))", 19, 0, 0);
        CHECKS.gives(x, "from t0 let safe(-a, b)", 3, 0, 0);
        CHECKS.fault(x, "from t0 let -safe(a, b)", 1, 12, 0);
        CHECKS.fault(x, "from t0 let safe(safe(a, b) + 1, p)", 2, 33, -1);
    }

    private static void safeTakesUp() {
        CHECKS.says("safe(x, y): x; if a FAULT other than 8 comes as x is worked out, it is taken up: 200 of CREDIT "
                + "(it is not taken up with less), and y.");
        ColumnHouse x = new ColumnHouse();
        x.table(0, 2);
        Checks.column(x, 0, 3, 5, 6);
        Checks.boxes(x, 0, 8, null, "t");
        Checks.lists(x, 0, new int[1], null);
        String[] faults = {"a + b", "d", "list(0 - row)", "a + c", "a / 0", "list(21)", "len(c)", "c[1]"};
        for (String fault : faults) {
            ColumnHouse y = x;
            CHECKS.gives(y, "from t0 let safe(" + fault + ", a)", 3, 5, 6);
            CHECKS.due(fault + " is taken up", y.fault(3), 1);
        }
        CHECKS.gives(x, "from t0 let safe(a + 1, d)", 3, 6, 7);
        CHECKS.due("none is taken up", x.fault(3), 0);
        CHECKS.fault(x, "from t0 let safe(d, e)", 2, 20, -1);
        CHECKS.due("one is taken up", x.fault(3), 1);
        CHECKS.takes(x, "from t0 let safe(d, a)", 18 + 200);
        CHECKS.takes(x, "from t0 let safe(a, d)", 18);
        CHECKS.takes(x, "from t0 let safe(1 / 0, 1)", 18 + 6 + 200 + 2);
        ColumnHouse z = of(0, 3);
        CHECKS.takes(z, "from t0 let safe(b, a)", 200);
        CHECKS.due("also without rows", z.fault(3), 1);
        CHECKS.fault(z, "from t0 let b", 2, 12, -1);
        CHECKS.due("nothing takes it up", z.fault(3), 0);
    }

    private static void safeWithoutCredit() {
        CHECKS.says("it is taken up: 200 of CREDIT (it is not taken up with less)");
        for (int over : new int[] {-1, 0, 1}) {
            ColumnHouse x = of(2, 3);
            Checks.spendTo(x, 2 + 4 + 200 + over);
            String query = "from t0 let safe(a / 0, a)";
            if (over < 0) {
                CHECKS.fault(x, query, 6, 19, 0);
                CHECKS.due("not taken up", x.fault(3), 0);
                CHECKS.due("what is left", x.credit(), 199);
            } else {
                CHECKS.fine(x, query, 2);
                CHECKS.due("taken up", x.fault(3), 1);
                CHECKS.due("what is left", x.credit(), over);
            }
        }
        ColumnHouse y = of(2, 3);
        Checks.spendTo(y, 2 + 4 + 200 + 1);
        CHECKS.fault(y, "from t0 let safe(a / 0, 1)", 8, 24, -1);
        CHECKS.due("taken up", y.fault(3), 1);
        CHECKS.due("what is left", y.credit(), 1);
        CHECKS.says("if a FAULT other than 8 comes");
        ColumnHouse z = of(60, 3);
        Checks.spendTo(z, 60 + 239);
        CHECKS.fault(z, "from t0 let safe(nil, a)", 8, 17, -1);
        CHECKS.due("8 is not taken up", z.fault(3), 0);
        CHECKS.due("what is left", z.credit(), 239);
        CHECKS.fault(z, "from t0 let safe(a + nil, a)", 8, 21, -1);
        ColumnHouse w = of(60, 3);
        Checks.spendTo(w, 60 + 239);
        CHECKS.fault(w, "from t0 let safe(nil, a)", 8, 17, -1);
        w.table(1, 0);
        CHECKS.fault(w, "from t1 let a", 2, 12, -1);
        CHECKS.due("the query ahead takes nothing up", w.fault(3), 0);
        CHECKS.due("nor does it take CREDIT", w.credit(), 239);
    }

    private static void safeInOneAnother() {
        CHECKS.says("3 how many FAULTS safe() took up in it.");
        ColumnHouse x = of(2, 3);
        CHECKS.gives(x, "from t0 let safe(safe(1 / 0, 2 / 0), 3)", 3, 3, 3);
        CHECKS.due("two", x.fault(3), 2);
        CHECKS.gives(x, "from t0 let safe(safe(1 / 0, 2), 3)", 3, 2, 2);
        CHECKS.due("one", x.fault(3), 1);
        CHECKS.gives(x, "from t0 let 1 + safe(2 * (3 + p), 4) * 5", 3, 21, 21);
        CHECKS.due("one", x.fault(3), 1);
        CHECKS.gives(x, "from t0 let safe(p, 1) + safe(p, 2) + safe(3, p)", 3, 6, 6);
        CHECKS.due("two", x.fault(3), 2);
        CHECKS.fine(x, "from t0 let safe(p, 1) where safe(p, 1 = 1) group : sum(safe(p, 2))", 1);
        CHECKS.due("three, in several steps", x.fault(3), 3);
        String deep = "safe(".repeat(20) + "p" + ",1)".repeat(20);
        CHECKS.gives(x, "from t0 let " + deep, 3, 1, 1);
        CHECKS.due("one, by the innermost", x.fault(3), 1);
        String chain = "safe(".repeat(20) + "p" + ",p)".repeat(19) + ",7)";
        CHECKS.gives(x, "from t0 let " + chain, 3, 7, 7);
        CHECKS.due("twenty", x.fault(3), 20);
        CHECKS.fault(x, "from t0 where safe(p, a)", 4, 8, -1);
        CHECKS.due("what the step finds is not taken up", x.fault(3), 1);
        CHECKS.fault(x, "from t0 group : any(safe(p, a))", 4, 16, -1);
    }
}
