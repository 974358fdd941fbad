/** Boundary cases of PART 3's lists, boxes, rows ahead and choices, each beside its sentence. */
public final class EdgesOfListsTest {
    private static final Checks CHECKS = new Checks("EdgesOfListsTest");
    private static final int LEAST = Integer.MIN_VALUE;
    private static final int MOST = Integer.MAX_VALUE;
    private static final long NAN = Checks.real(Double.NaN);
    private static final long SINGLE_NAN = Checks.single(Float.NaN);

    public static void main(String[] args) {
        items();
        itemsThatThereAreNot();
        lengths();
        newLists();
        changedLists();
        listsTogether();
        operandsAheadOfPlaces();
        missing();
        boxes();
        constants();
        rowNumbers();
        priors();
        runs();
        choices();
        choicesOfBoxes();
        CHECKS.end();
    }

    /** Table 0: a LISTS. */
    private static ColumnHouse of(int[]... lists) {
        ColumnHouse x = new ColumnHouse();
        x.table(0, lists.length);
        Checks.lists(x, 0, lists);
        return x;
    }

    private static int[] zeros(int n) {
        return new int[n];
    }

    private static int[] upTo(int n) {
        int[] list = new int[n];
        for (int i = 0; i < n; i++) {
            list[i] = i + 1;
        }
        return list;
    }

    private static void items() {
        CHECKS.says("x[i]: LISTS and kinds 0 to 3, a WHOLE:");
        ColumnHouse x = of(upTo(20), upTo(20), new int[] {LEAST, MOST});
        CHECKS.gives(x, "from t0 let a[0]", 3, 1, 1, LEAST);
        CHECKS.gives(x, "from t0 let a[1]", 3, 2, 2, MOST);
        CHECKS.gives(x, "from t0 first 2 let a[18 + row]", 3, 19, 20);
        for (int kind = 0; kind <= 3; kind++) {
            ColumnHouse y = of(upTo(3), upTo(3));
            Checks.column(y, 0, kind, 0, 2);
            CHECKS.gives(y, "from t0 let a[b]", 3, 1, 3);
        }
    }

    private static void itemsThatThereAreNot() {
        CHECKS.says("x NOTHING 1; a place that is none 2.");
        ColumnHouse x = of(upTo(20), upTo(1), upTo(0));
        CHECKS.fault(x, "from t0 let a[0]", 2, 13, 2);
        CHECKS.fault(x, "from t0 let a[1]", 2, 13, 1);
        CHECKS.fault(x, "from t0 let a[20]", 2, 13, 0);
        CHECKS.fault(x, "from t0 let a[-1]", 2, 13, 0);
        CHECKS.gives(x, "from t0 first 1 let a[19]", 3, 20);
        CHECKS.fault(x, "from t0 first 1 let a[20]", 2, 21, 0);
        CHECKS.fault(x, "from t0 first 1 let a[999999999]", 2, 21, 0);
        CHECKS.fault(of(upTo(2), null), "from t0 let a[0]", 1, 13, 1);
        CHECKS.fault(of(null, upTo(2)), "from t0 let a[0]", 1, 13, 0);
        for (int kind = 0; kind <= 3; kind++) {
            ColumnHouse y = of(upTo(3), upTo(3));
            Checks.column(y, 0, kind, 2, 3);
            CHECKS.fault(y, "from t0 let a[b]", 2, 13, 1);
            ColumnHouse z = of(upTo(3), upTo(3));
            Checks.column(z, 0, kind, 2, -1);
            CHECKS.fault(z, "from t0 let a[b]", 2, 13, 1);
            ColumnHouse w = of(upTo(3), upTo(3));
            Checks.column(w, 0, kind, LEAST, MOST);
            if (kind == 3) {
                CHECKS.fault(w, "from t0 let a[b]", 2, 13, 0);
            } else {
                CHECKS.fault(w, "from t0 let a[b]", 2, 13, 1);
            }
        }
    }

    private static void lengths() {
        CHECKS.says("len: LISTS (NOTHING 1): a WHOLE.");
        CHECKS.gives(of(upTo(0), upTo(1), upTo(20)), "from t0 let len(a)", 3, 0, 1, 20);
        CHECKS.gives(of(upTo(20), upTo(0)), "from t0 let len(a)", 3, 20, 0);
        CHECKS.fault(of(null, upTo(0)), "from t0 let len(a)", 1, 12, 0);
        CHECKS.fault(of(upTo(0), null, null), "from t0 let len(a)", 1, 12, 1);
        CHECKS.gives(of(), "from t0 let len(a)", 3);
    }

    private static void newLists() {
        CHECKS.says("list(n): kinds 0 to 3: a list of n zeros (below 0: 3, above 20: 7).");
        for (int kind = 0; kind <= 3; kind++) {
            ColumnHouse x = new ColumnHouse();
            x.table(0, 4);
            Checks.column(x, 0, kind, 0, 1, 19, 20);
            Checks.column(x, 0, kind, 20, 20, 20, 21);
            Checks.column(x, 0, kind, 0, 0, -1, 0);
            Checks.column(x, 0, kind, 21, -1, 0, 0);
            Checks.column(x, 0, kind, 0, -1, 21, 0);
            CHECKS.gives(x, "from t0 let list(a)", 11, 0, 1, 19, 20);
            CHECKS.due("a list of none is a list", x.sort(6, 5, 0), 4);
            CHECKS.due("of zeros", x.number(6, 5, 3, 19), 0);
            CHECKS.fault(x, "from t0 let list(b)", 7, 12, 3);
            CHECKS.fault(x, "from t0 let list(c)", kind == 1 ? 7 : 3, 12, 2);
            CHECKS.fault(x, "from t0 let list(d)", 7, 12, 0);
            CHECKS.fault(x, "from t0 let list(e)", kind == 1 ? 7 : 3, 12, 1);
        }
        ColumnHouse x = new ColumnHouse();
        x.table(0, 2);
        Checks.column(x, 0, 3, MOST, LEAST);
        CHECKS.fault(x, "from t0 let list(a)", 7, 12, 0);
        CHECKS.fault(x, "from t0 sort a let list(a)", 3, 19, 0);
    }

    private static void changedLists() {
        CHECKS.says("with(x, i, v): LISTS, kinds 0 to 3 twice: a list like x (NOTHING 1) but for v at i (2).");
        ColumnHouse x = of(upTo(20), upTo(3));
        CHECKS.gives(x, "from t0 let with(a, 2, 77)", 11, 20, 3);
        CHECKS.due("but for v", x.number(6, 1, 0, 2), 77);
        CHECKS.due("the one ahead", x.number(6, 1, 0, 1), 2);
        CHECKS.due("the one behind", x.number(6, 1, 0, 3), 4);
        CHECKS.due("x stays", x.number(6, 0, 0, 2), 3);
        CHECKS.due("the table's stays", x.number(0, 0, 0, 2), 3);
        CHECKS.fault(x, "from t0 let with(a, 3, 7)", 2, 12, 1);
        CHECKS.fault(x, "from t0 let with(a, 20, 7)", 2, 12, 0);
        CHECKS.fault(x, "from t0 let with(a, -1, 7)", 2, 12, 0);
        CHECKS.fine(x, "from t0 first 1 let with(a, 19, 7)", 1);
        CHECKS.due("the last", x.number(6, 1, 0, 19), 7);
        CHECKS.fault(of(upTo(1), null), "from t0 let with(a, 0, 7)", 1, 12, 1);
        CHECKS.fault(of(upTo(1), upTo(0)), "from t0 let with(a, 0, 7)", 2, 12, 1);
        long[][] each = {{-128, 127}, {0, 65535}, {-32768, 32767}, {LEAST, MOST}};
        for (int kind = 0; kind <= 3; kind++) {
            ColumnHouse y = of(upTo(1), upTo(1));
            Checks.column(y, 0, kind, each[kind]);
            CHECKS.gives(y, "from t0 let with(a, 0, b)[0]", 3, each[kind]);
        }
    }

    private static void listsTogether() {
        CHECKS.says("cat(x, y): LISTS: both behind one another (NOTHING 1; more than 20: 7).");
        ColumnHouse x = of(upTo(0), upTo(1), upTo(19), upTo(20));
        CHECKS.gives(x, "from t0 let cat(a, list(0))", 11, 0, 1, 19, 20);
        CHECKS.gives(x, "from t0 let cat(list(0), a)", 11, 0, 1, 19, 20);
        CHECKS.fault(x, "from t0 let cat(a, list(1))", 7, 12, 3);
        CHECKS.fault(x, "from t0 let cat(list(1), a)", 7, 12, 3);
        CHECKS.fault(x, "from t0 let cat(list(2), a)", 7, 12, 2);
        CHECKS.fault(x, "from t0 let cat(list(20), a)", 7, 12, 1);
        CHECKS.gives(x, "from t0 first 3 let cat(a, list(1))", 11, 1, 2, 20);
        CHECKS.gives(x, "from t0 first 2 let cat(a, with(list(2), 1, 9))", 11, 2, 3);
        CHECKS.due("x first", x.number(6, 1, 1, 0), 1);
        CHECKS.due("then y", x.number(6, 1, 1, 1), 0);
        CHECKS.due("then y", x.number(6, 1, 1, 2), 9);
        CHECKS.gives(of(upTo(10)), "from t0 let cat(a, a)", 11, 20);
        CHECKS.fault(of(upTo(11)), "from t0 let cat(a, a)", 7, 12, 0);
        CHECKS.fault(of(upTo(1), null), "from t0 let cat(a, list(1))", 1, 12, 1);
        CHECKS.fault(of(upTo(1), null), "from t0 let cat(list(1), a)", 1, 12, 1);
    }

    private static void operandsAheadOfPlaces() {
        CHECKS.says("Then its operands from the left, each row by row: AWAY is 1 (at row 0, when there are rows), and "
                + "what is told below of NOTHING and of boxes. Then what it tells itself, row by row.");
        ColumnHouse x = of(upTo(0), null);
        Checks.lists(x, 0, null, upTo(20));
        Checks.lists(x, 0, upTo(20), upTo(20));
        x.column(0, 3);
        x.away(0, 3, true);
        CHECKS.fault(x, "from t0 let a[0]", 1, 13, 1);
        CHECKS.fault(x, "from t0 let a[d]", 1, 13, 1);
        CHECKS.fault(x, "from t0 let with(a, 0, 0)", 1, 12, 1);
        CHECKS.fault(x, "from t0 let with(a, d, d)", 1, 12, 1);
        CHECKS.fault(x, "from t0 let with(c, 20, d)", 1, 12, 0);
        CHECKS.fault(x, "from t0 let c[d]", 1, 13, 0);
        CHECKS.fault(x, "from t0 let cat(a, b)", 1, 12, 1);
        CHECKS.fault(x, "from t0 let cat(b, a)", 1, 12, 0);
        CHECKS.fault(x, "from t0 let cat(c, b)", 1, 12, 0);
        CHECKS.fault(x, "from t0 let cat(c, a)", 1, 12, 1);
        CHECKS.fault(x, "from t0 let cat(c, c)", 7, 12, 0);
        x.away(0, 1, true);
        CHECKS.fault(x, "from t0 let cat(a, b)", 1, 12, 1);
        CHECKS.fault(x, "from t0 let cat(c, b)", 1, 12, 0);
    }

    private static void missing() {
        CHECKS.says("missing: any kind: FLAGS: whether it is NOTHING.");
        for (int kind = 0; kind <= 11; kind++) {
            ColumnHouse x = new ColumnHouse();
            x.table(0, 2);
            x.column(0, kind);
            x.put(0, 0, 1, kind == 5 ? SINGLE_NAN : kind == 6 ? NAN : 0);
            x.box(0, 0, 1, kind == 10 ? 3 : 1, 0);
            boolean floating = kind == 5 || kind == 6;
            CHECKS.gives(x, "from t0 let missing(a)", 7, kind >= 8 ? 1 : 0, floating ? 1 : 0);
        }
        ColumnHouse x = new ColumnHouse();
        x.table(0, 4);
        Checks.boxes(x, 0, 8, null, "", 0, 0.0);
        Checks.column(x, 0, 6, Checks.real(Double.POSITIVE_INFINITY), NAN, 0, -1);
        CHECKS.gives(x, "from t0 let missing(a)", 7, 1, 0, 0, 0);
        CHECKS.gives(x, "from t0 let missing(b)", 7, 0, 1, 0, 1);
        CHECKS.gives(x, "from t0 let missing(nil)", 7, 1, 1, 1, 1);
        CHECKS.gives(x, "from t0 let missing('')", 7, 0, 0, 0, 0);
        CHECKS.gives(x, "from t0 let missing(0.0 / 0)", 7, 1, 1, 1, 1);
    }

    private static void boxes() {
        CHECKS.says("box: kinds 0 to 3: NUMBERS (9) of WHOLEs; 4 to 6: NUMBERS of REALs; boxes: the same; others: 4.");
        long[][] wholes = {{-128, 127}, {0, 65535}, {-32768, 32767}, {LEAST, MOST}};
        for (int kind = 0; kind <= 3; kind++) {
            ColumnHouse x = new ColumnHouse();
            x.table(0, 2);
            Checks.column(x, 0, kind, wholes[kind]);
            CHECKS.gives(x, "from t0 let box(a)", 9, wholes[kind]);
            CHECKS.due("a WHOLE's", x.sort(6, 1, 0), 1);
            CHECKS.due("a WHOLE's", x.sort(6, 1, 1), 1);
        }
        ColumnHouse x = new ColumnHouse();
        x.table(0, 3);
        Checks.column(x, 0, 4, Long.MAX_VALUE, (1L << 53) + 1, Long.MIN_VALUE);
        Checks.column(x, 0, 5, 1, 0x80000000L, SINGLE_NAN);
        Checks.column(x, 0, 6, 1, Long.MIN_VALUE, Checks.real(Double.NEGATIVE_INFINITY));
        Checks.boxes(x, 0, 8, null, "t", 1);
        Checks.boxes(x, 0, 10, null, "t", "");
        CHECKS.gives(x, "from t0 let box(a)", 9, Checks.real(0x1p63), Checks.real(0x1p53), Checks.real(-0x1p63));
        CHECKS.due("a REAL's", x.sort(6, 5, 0), 2);
        CHECKS.gives(x, "from t0 let box(b)", 9, Checks.real(Float.MIN_VALUE), Long.MIN_VALUE, NAN);
        CHECKS.due("a REAL's", x.sort(6, 5, 2), 2);
        CHECKS.gives(x, "from t0 let box(c)", 9, 1, Long.MIN_VALUE, Checks.real(Double.NEGATIVE_INFINITY));
        CHECKS.gives(x, "from t0 let box(d)", 8, 0, 't', 1);
        for (int r = 0; r < 3; r++) {
            CHECKS.due("the same", x.sort(6, 5, r), new int[] {0, 3, 1}[r]);
        }
        CHECKS.gives(x, "from t0 let box(e)", 10, 0, 't', 0);
        CHECKS.due("NOTHING", x.sort(6, 5, 0), 0);
        CHECKS.due("a text without bytes", x.sort(6, 5, 2), 3);
    }

    private static void constants() {
        CHECKS.says("nil: BOXES, all NOTHING. A TEXT constant: TEXTS. row: a WHOLE, 0 and on.");
        ColumnHouse x = of(zeros(0), zeros(0));
        CHECKS.gives(x, "from t0 let nil", 8, 0, 0);
        CHECKS.due("NOTHING", x.sort(6, 1, 1), 0);
        CHECKS.gives(x, "from t0 let ''", 10, 0, 0);
        CHECKS.due("a text", x.sort(6, 1, 1), 3);
        CHECKS.gives(x, "from t0 let 'abcdefgh'", 10, Checks.text("abcdefgh"), Checks.text("abcdefgh"));
        CHECKS.gives(of(), "from t0 let nil", 8);
    }

    private static void rowNumbers() {
        CHECKS.says("row: a WHOLE, 0 and on.");
        for (int rows : new int[] {0, 1, 2, 60}) {
            ColumnHouse x = new ColumnHouse();
            x.table(0, rows);
            long[] due = new long[rows];
            for (int r = 0; r < rows; r++) {
                due[r] = r;
            }
            CHECKS.gives(x, "from t0 let row", 3, due);
        }
        ColumnHouse x = new ColumnHouse();
        x.table(0, 4);
        CHECKS.gives(x, "from t0 let row where a > 1 let row", 3, 0, 1);
        CHECKS.cells(x, "what it was ahead", 0, 2, 3);
    }

    private static void priors() {
        CHECKS.says("prior(x): any kind: of row 0 x's, of others that of the row ahead.");
        for (int kind = 0; kind <= 11; kind++) {
            ColumnHouse x = new ColumnHouse();
            x.table(0, 3);
            x.column(0, kind);
            for (int r = 0; r < 3; r += 2) {
                x.put(0, 0, r, 1);
                x.box(0, 0, r, kind == 10 ? 3 : 1, 1);
            }
            CHECKS.gives(x, "from t0 let prior(a)", kind, 1, 1, 0);
            int sort = kind < 8 ? -1 : kind == 11 ? 4 : kind == 10 ? 3 : 1;
            CHECKS.due("sort", x.sort(6, 1, 1), sort);
            CHECKS.due("sort", x.sort(6, 1, 2), kind < 8 ? -1 : 0);
            CHECKS.gives(x, "from t0 let prior(prior(a))", kind, 1, 1, 1);
            CHECKS.gives(x, "from t0 first 1 let prior(a)", kind, 1);
            CHECKS.gives(x, "from t0 first 0 let prior(a)", kind);
        }
    }

    private static void runs() {
        CHECKS.says("run(x): kinds 0 to 6: of row 0 x's, of others that and the sum ahead, of their kind (WHOLE at "
                + "least).");
        long[][] wholes = {{127, 127, -128, 126}, {65535, 65535, 65535, 196605}, {32767, 32767, 32767, 98301}};
        for (int kind = 0; kind <= 2; kind++) {
            ColumnHouse x = new ColumnHouse();
            x.table(0, 3);
            long[] w = wholes[kind];
            Checks.column(x, 0, kind, w[0], w[1], w[2]);
            CHECKS.gives(x, "from t0 let run(a)", 3, w[0], w[0] + w[1], w[3]);
        }
        ColumnHouse x = new ColumnHouse();
        x.table(0, 3);
        Checks.column(x, 0, 3, MOST, 1, -1);
        Checks.column(x, 0, 4, Long.MAX_VALUE, 1, -1);
        Checks.column(x, 0, 5, 0x80000000L, 0x80000000L, 0);
        Checks.column(x, 0, 5, Checks.single(Float.MAX_VALUE), Checks.single(Float.MAX_VALUE),
                Checks.single(-Float.MAX_VALUE));
        Checks.column(x, 0, 6, Checks.real(0x1p53), Checks.real(1), Checks.real(1));
        Checks.column(x, 0, 6, 1, NAN, 1);
        Checks.column(x, 0, 5, Checks.single(0x1p24f), Checks.single(1), Checks.single(1));
        CHECKS.gives(x, "from t0 let run(a)", 3, MOST, LEAST, MOST);
        CHECKS.gives(x, "from t0 let run(b)", 4, Long.MAX_VALUE, Long.MIN_VALUE, Long.MAX_VALUE);
        CHECKS.gives(x, "from t0 let run(c)", 5, LEAST, LEAST, 0);
        long infinite = Checks.single(Float.POSITIVE_INFINITY);
        CHECKS.gives(x, "from t0 let run(d)", 5, Checks.single(Float.MAX_VALUE), infinite, infinite);
        CHECKS.gives(x, "from t0 let run(e)", 6, Checks.real(0x1p53), Checks.real(0x1p53), Checks.real(0x1p53));
        CHECKS.gives(x, "from t0 let run(f)", 6, 1, NAN, NAN);
        CHECKS.gives(x, "from t0 let run(g)", 5, Checks.single(0x1p24f), Checks.single(0x1p24f),
                Checks.single(0x1p24f));
        CHECKS.gives(x, "from t0 first 1 let run(c)", 5, LEAST);
        CHECKS.gives(x, "from t0 first 0 let run(a)", 3);
    }

    private static void choices() {
        CHECKS.says("if(x, y, z): FLAGS; y and z of one kind, or both of kinds 0 to 6 (their kind together)");
        CHECKS.says("y's where x is true, else z's.");
        ColumnHouse x = new ColumnHouse();
        x.table(0, 2);
        Checks.column(x, 0, 7, 1, 0);
        Checks.column(x, 0, 0, -128, 127);
        Checks.column(x, 0, 1, 65535, 65535);
        Checks.column(x, 0, 3, 16777217, 16777217);
        Checks.column(x, 0, 4, (1L << 53) + 1, (1L << 53) + 1);
        Checks.column(x, 0, 5, Checks.single(0.1f), Checks.single(0.1f));
        Checks.column(x, 0, 6, NAN, NAN);
        CHECKS.gives(x, "from t0 let if(a, b, b)", 0, -128, 127);
        CHECKS.gives(x, "from t0 let if(a, b, c)", 3, -128, 65535);
        CHECKS.gives(x, "from t0 let if(a, c, c)", 1, 65535, 65535);
        CHECKS.gives(x, "from t0 let if(a, d, e)", 4, 16777217, (1L << 53) + 1);
        CHECKS.gives(x, "from t0 let if(a, d, f)", 5, Checks.single(0x1p24f), Checks.single(0.1f));
        CHECKS.gives(x, "from t0 let if(a, f, d)", 5, Checks.single(0.1f), Checks.single(0x1p24f));
        CHECKS.gives(x, "from t0 let if(a, f, g)", 6, Checks.real(0.1f), NAN);
        CHECKS.gives(x, "from t0 let if(a, g, e)", 6, NAN, Checks.real(0x1p53));
        CHECKS.gives(x, "from t0 let if(not a, b, d)", 3, 16777217, 127);
        CHECKS.gives(x, "from t0 let if(a, a, not a)", 7, 1, 1);
        CHECKS.gives(x, "from t0 let if(row < 9, 1, 2)", 3, 1, 1);
        CHECKS.gives(x, "from t0 let if(row > 9, 1, 2)", 3, 2, 2);
    }

    private static void choicesOfBoxes() {
        CHECKS.says("or both boxes (BOXES when their kinds differ); others 4:");
        ColumnHouse x = new ColumnHouse();
        x.table(0, 2);
        Checks.column(x, 0, 7, 1, 0);
        Checks.boxes(x, 0, 8, null, "b");
        Checks.boxes(x, 0, 9, 5, 6);
        Checks.boxes(x, 0, 10, "t", null);
        Checks.lists(x, 0, upTo(2), null);
        Checks.lists(x, 0, null, upTo(1));
        int[][] each = {{1, 1, 8}, {1, 2, 8}, {1, 3, 8}, {2, 2, 9}, {2, 3, 8}, {3, 3, 10}, {3, 2, 8}};
        for (int[] e : each) {
            String query = "from t0 let if(a, " + (char) ('a' + e[0]) + ", " + (char) ('a' + e[1]) + ")";
            CHECKS.gives(x, query, e[2], x.cell(0, e[0], 0), x.cell(0, e[1], 1));
            CHECKS.due("sort of y's", x.sort(6, 6, 0), x.sort(0, e[0], 0));
            CHECKS.due("sort of z's", x.sort(6, 6, 1), x.sort(0, e[1], 1));
        }
        CHECKS.gives(x, "from t0 let if(a, e, f)", 11, 2, 1);
        CHECKS.gives(x, "from t0 let if(a, f, e)", 11, 0, 0);
        CHECKS.due("NOTHING is no FAULT", x.sort(6, 6, 0), 0);
    }
}
