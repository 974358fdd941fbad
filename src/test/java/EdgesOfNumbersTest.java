/** Boundary cases of what PART 3's operators and functions reckon, each beside its sentence. */
public final class EdgesOfNumbersTest {
    private static final Checks CHECKS = new Checks("EdgesOfNumbersTest");
    private static final int LEAST = Integer.MIN_VALUE;
    private static final int MOST = Integer.MAX_VALUE;
    private static final float FINF = Float.POSITIVE_INFINITY;
    private static final double INF = Double.POSITIVE_INFINITY;
    private static final double NAN = Double.NaN;
    private static final double TINIEST = Double.MIN_VALUE;
    private static final double GREATEST = Double.MAX_VALUE;
    private static final double NORMAL = Double.MIN_NORMAL;

    public static void main(String[] args) {
        wholesGoRound();
        wholesDivided();
        wholesAhead();
        realsReckoned();
        singlesReckoned();
        whatIsLeft();
        kindTogether();
        likeNumbers();
        likeFlagsAndLists();
        likeBoxes();
        ordered();
        logic();
        wholeToWhole();
        wholeToFloating();
        floatingToWhole();
        realToSingle();
        sizes();
        extremes();
        wholeNumbersNear();
        rounded();
        roots();
        signs();
        units();
        nexts();
        exponents();
        copiedSigns();
        multipliedAndAdded();
        scaled();
        bits();
        CHECKS.end();
    }

    /** Table 0 has one row, and a column for each number: an Integer a WHOLE, a Long, a Float or a Double. */
    private static ColumnHouse of(Object... numbers) {
        ColumnHouse x = new ColumnHouse();
        x.table(0, 1);
        for (Object n : numbers) {
            if (n instanceof Integer) {
                Checks.column(x, 0, 3, (Integer) n);
            } else if (n instanceof Long) {
                Checks.column(x, 0, 4, (Long) n);
            } else if (n instanceof Float) {
                Checks.column(x, 0, 5, Checks.single((Float) n));
            } else if (n instanceof Double) {
                Checks.column(x, 0, 6, Checks.real((Double) n));
            } else if (n instanceof Boolean) {
                Checks.column(x, 0, 7, (Boolean) n ? 1 : 0);
            } else {
                Checks.lists(x, 0, (int[]) n);
            }
        }
        return x;
    }

    private static int kindOf(Object due) {
        if (due instanceof Integer || due instanceof Long) {
            return due instanceof Integer ? 3 : 4;
        }
        return due instanceof Float ? 5 : due instanceof Double ? 6 : 7;
    }

    private static long bitsOf(Object due) {
        if (due instanceof Float) {
            return Checks.single((Float) due);
        }
        if (due instanceof Double) {
            return Checks.real((Double) due);
        }
        if (due instanceof Boolean) {
            return (Boolean) due ? 1 : 0;
        }
        return ((Number) due).longValue();
    }

    /** What an expression of a, b, c gives for these. */
    private static void gives(Object due, String ex, Object... numbers) {
        CHECKS.gives(of(numbers), "from t0 let " + ex, kindOf(due), bitsOf(due));
    }

    /** What a function gives: pairs of what it is given and what is due. */
    private static void table(String ex, Object... pairs) {
        for (int i = 0; i + 1 < pairs.length; i += 2) {
            gives(pairs[i + 1], ex, pairs[i]);
        }
    }

    private static void wholesGoRound() {
        CHECKS.says("whole ones go round,");
        gives(LEAST, "a + b", MOST, 1);
        gives(MOST, "a + b", MOST, 0);
        gives(MOST, "a + b", LEAST, -1);
        gives(MOST, "a - b", LEAST, 1);
        gives(LEAST, "a - b", MOST, -1);
        gives(LEAST, "a - b", LEAST, 0);
        gives(LEAST, "a * b", LEAST, -1);
        gives(-2, "a * b", MOST, 2);
        gives(1, "a * b", MOST, MOST);
        gives(0, "a * b", 65536, 65536);
        gives(LEAST, "a * b", 65536, 32768);
        gives(Long.MIN_VALUE, "a + b", Long.MAX_VALUE, 1L);
        gives(Long.MAX_VALUE, "a + b", Long.MIN_VALUE, -1);
        gives(Long.MAX_VALUE, "a - b", Long.MIN_VALUE, 1);
        gives(Long.MIN_VALUE, "a * b", Long.MIN_VALUE, -1L);
        gives(1L, "a * b", Long.MAX_VALUE, Long.MAX_VALUE);
        gives(0L, "a * b", 1L << 32, 1L << 32);
        gives(1L + MOST, "a + b", MOST, 1L);
        gives(4L * MOST * MOST, "a * b * 4", (long) MOST, MOST);
    }

    private static void wholesDivided() {
        CHECKS.says("/ cut towards 0, % with the sign of the left one, 6 by 0;");
        int[][] each = {{7, 2, 3, 1}, {-7, 2, -3, -1}, {7, -2, -3, 1}, {-7, -2, 3, -1}, {1, 2, 0, 1}, {-1, 2, 0, -1},
            {0, 5, 0, 0}, {0, -5, 0, 0}, {6, 3, 2, 0}, {-6, 3, -2, 0}, {LEAST, -1, LEAST, 0}, {LEAST, 1, LEAST, 0},
            {LEAST, LEAST, 1, 0}, {MOST, LEAST, 0, MOST}, {LEAST, MOST, -1, -1}, {MOST, -1, -MOST, 0}};
        for (int[] e : each) {
            gives(e[2], "a / b", e[0], e[1]);
            gives(e[3], "a % b", e[0], e[1]);
            if (e[0] != LEAST || e[1] != -1) {
                gives((long) e[2], "a / b", (long) e[0], e[1]);
                gives((long) e[3], "a % b", e[0], (long) e[1]);
            }
        }
        gives(Long.MIN_VALUE, "a / b", Long.MIN_VALUE, -1L);
        gives(0L, "a % b", Long.MIN_VALUE, -1L);
        gives(-1L, "a / b", Long.MIN_VALUE, Long.MAX_VALUE);
        gives(-1L, "a % b", Long.MIN_VALUE, Long.MAX_VALUE);
        for (Object[] pair : new Object[][] {{1, 0}, {0, 0}, {LEAST, 0}, {1L, 0L}, {1, 0L}, {0L, 0}}) {
            CHECKS.fault(of(pair), "from t0 let a / b", 6, 14, 0);
            CHECKS.fault(of(pair), "from t0 let a % b", 6, 14, 0);
        }
        ColumnHouse x = new ColumnHouse();
        x.table(0, 4);
        Checks.column(x, 0, 0, 1, -1, 0, 0);
        CHECKS.fault(x, "from t0 let 1 / a", 6, 14, 2);
        CHECKS.fault(x, "from t0 let row % a", 6, 16, 2);
        CHECKS.gives(x, "from t0 first 2 let 1 / a", 3, 1, -1);
    }

    private static void wholesAhead() {
        CHECKS.says("(whole: 0 less it; floating: its sign turned)");
        table("-a", 1, -1, 0, 0, MOST, -MOST, LEAST, LEAST, -1, 1, Long.MIN_VALUE, Long.MIN_VALUE, Long.MAX_VALUE,
                -Long.MAX_VALUE, 0L, 0L, 0.0, -0.0, -0.0, 0.0, 0f, -0f, -0f, 0f, INF, -INF, -INF, INF, NAN, NAN,
                Float.NaN, Float.NaN, FINF, -FINF, TINIEST, -TINIEST, GREATEST, -GREATEST, -1.5f, 1.5f);
        table("0 - a", 0.0, 0.0, -0.0, 0.0, 0f, 0f);
        ColumnHouse x = new ColumnHouse();
        x.table(0, 1);
        Checks.column(x, 0, 0, -128);
        Checks.column(x, 0, 1, 65535);
        Checks.column(x, 0, 2, -32768);
        CHECKS.gives(x, "from t0 let -a", 3, 128);
        CHECKS.gives(x, "from t0 let -b", 3, -65535);
        CHECKS.gives(x, "from t0 let -c", 3, 32768);
    }

    private static void realsReckoned() {
        CHECKS.says("floating ones by IEEE 754,");
        double[] all = {0.0, -0.0, 1, -1, TINIEST, -TINIEST, NORMAL, NORMAL - TINIEST, GREATEST, -GREATEST, INF, -INF,
                NAN, 0.1, 3, 0x1p53, 0x1p-1074 * 3, 1 + 0x1p-52, 1 - 0x1p-53, 0x1p1023, 0x1p-1022};
        for (double a : all) {
            for (double b : all) {
                ColumnHouse x = of(a, b);
                long[] due = {Checks.real(a + b), Checks.real(a - b), Checks.real(a * b), Checks.real(a / b),
                        Checks.real(a % b)};
                CHECKS.fine(x, "from t0 let a + b let a - b let a * b let a / b let a % b", 1);
                for (int c = 0; c < 5; c++) {
                    CHECKS.due(a + " +-*/% " + b + ", operator " + c, x.cell(6, 2 + c, 0), due[c]);
                }
            }
        }
        gives(INF, "a / b", 1.0, 0);
        gives(-INF, "a / b", 1.0, -0.0);
        gives(NAN, "a / b", 0, 0.0);
        gives(INF, "a * b", GREATEST, 2);
        gives(0.0, "a / b", TINIEST, 2);
        gives(-0.0, "a / b", -TINIEST, 2);
        gives(NORMAL - TINIEST, "a - b", NORMAL, TINIEST);
        gives(0x1p53, "a + b", 0x1p53 - 1, 2.0);
        gives(0x1p53 + 2, "a + b", 0x1p53 - 1, Math.nextUp(2.0));
        gives(0x1p53, "a + b", 0x1p53 - 1, Math.nextDown(2.0));
        gives(-0x1p53 - 2, "a - b", 1 - 0x1p53, Math.nextUp(2.0));
    }

    private static void singlesReckoned() {
        CHECKS.says("floating ones by IEEE 754,");
        float tiniest = Float.MIN_VALUE;
        float[] all = {0f, -0f, 1f, -1f, tiniest, -tiniest, Float.MIN_NORMAL, Float.MIN_NORMAL - tiniest,
                Float.MAX_VALUE, -Float.MAX_VALUE, FINF, -FINF, Float.NaN, 0.1f, 3f, 0x1p24f, 1f + 0x1p-23f,
                1f - 0x1p-24f, 0x1p127f};
        for (float a : all) {
            for (float b : all) {
                ColumnHouse x = of(a, b);
                long[] due = {Checks.single(a + b), Checks.single(a - b), Checks.single(a * b), Checks.single(a / b),
                    Checks.single(a % b)};
                CHECKS.fine(x, "from t0 let a + b let a - b let a * b let a / b let a % b", 1);
                for (int c = 0; c < 5; c++) {
                    CHECKS.due(a + "f +-*/% " + b + "f, operator " + c, x.cell(6, 2 + c, 0), due[c]);
                }
            }
        }
        gives(FINF, "a * b", Float.MAX_VALUE, 2);
        gives(0f, "a / b", tiniest, 2);
        gives(0x1p24f, "a + b", 0x1p24f, 1);
        gives(0x1p24f + 4, "a + b", 0x1p24f + 2, 1f);
    }

    private static void whatIsLeft() {
        CHECKS.says("% what is left of the division cut towards 0.");
        gives(1.0, "a % b", 7.0, 3.0);
        gives(-1.0, "a % b", -7.0, 3.0);
        gives(1.0, "a % b", 7.0, -3.0);
        gives(0.0, "a % b", 6.0, 3.0);
        gives(-0.0, "a % b", -6.0, 3.0);
        gives(5.0, "a % b", 5.0, INF);
        gives(NAN, "a % b", INF, 5.0);
        gives(NAN, "a % b", 5.0, 0.0);
        gives(NAN, "a % b", 5.0, -0.0);
        gives(-0.0, "a % b", -0.0, 5.0);
        gives(TINIEST, "a % b", TINIEST, GREATEST);
        gives(0.0, "a % b", GREATEST, TINIEST);
        gives(GREATEST % 3.0, "a % b", GREATEST, 3.0);
        gives(1.5f, "a % b", 5.5f, 2f);
        gives(Float.MAX_VALUE % 3f, "a % b", Float.MAX_VALUE, 3f);
        gives(NAN, "a % b", NAN, 1.0);
        gives(NAN, "a % b", 1.0, NAN);
    }

    private static void kindTogether() {
        CHECKS.says("REAL if one is REAL or BOXED, else SINGLE if one is, else LONG if one is, else WHOLE; all are "
                + "made that first.");
        gives(0x1p24f, "a + b", 16777217, 0f);
        gives(16777217.0, "a + b", 16777217, 0.0);
        gives(0x1p53, "a + b", (1L << 53) + 1, 0.0);
        gives(0x1p63f, "a + b", Long.MAX_VALUE, 0f);
        gives(0.1f + 0.0, "a + b", 0.1f, 0.0);
        gives(1L + MOST, "a + b", MOST, 1L);
        gives(LEAST, "a + b", MOST, 1);
        ColumnHouse x = new ColumnHouse();
        x.table(0, 1);
        Checks.boxes(x, 0, 9, 16777217);
        Checks.column(x, 0, 5, 0);
        Checks.column(x, 0, 0, 127);
        CHECKS.gives(x, "from t0 let a + b", 6, Checks.real(16777217));
        CHECKS.gives(x, "from t0 let a / 2", 6, Checks.real(8388608.5));
        CHECKS.gives(x, "from t0 let c + c", 3, 254);
        CHECKS.gives(x, "from t0 let c * c * c * c * c", 3, (int) (127L * 127 * 127 * 127 * 127));
        CHECKS.says("a box of a number as a REAL;");
        table("box(a) * 1", 0, 0.0, -0.0, -0.0, 0f, 0.0, -0f, -0.0, LEAST, -2147483648.0, Long.MAX_VALUE, 0x1p63);
        table("1 / box(a)", 0, INF, -0.0, -INF, 0L, INF);
        table("-box(a)", 0, -0.0, 1, -1.0);
    }

    private static void likeNumbers() {
        CHECKS.says("= #: both of kinds 0 to 6 (their kind together; a NaN is like nothing, 0 is like -0);");
        Object[][] each = {{1, 1, true}, {1, 2, false}, {LEAST, LEAST, true}, {MOST, LEAST, false},
                {-1, 0xffffffffL, false}, {Long.MAX_VALUE, Long.MAX_VALUE, true},
                {Long.MAX_VALUE, Long.MAX_VALUE - 1, false}, {0.0, -0.0, true}, {0f, -0f, true}, {NAN, NAN, false},
                {Float.NaN, Float.NaN, false}, {NAN, 1.0, false}, {1, NAN, false}, {INF, INF, true},
                {INF, -INF, false}, {16777217, 0x1p24f, true}, {16777217, 0x1p24, false}, {16777218, 0x1p24f, false},
                {(1L << 53) + 1, 0x1p53, true}, {(1L << 53) + 2, 0x1p53, false}, {0.1f, 0.1, false},
                {0.5f, 0.5, true}, {Long.MAX_VALUE, 0x1p63f, true}, {Long.MAX_VALUE, 0x1p63, true},
                {TINIEST, 0, false}, {FINF, INF, true}};
        for (Object[] e : each) {
            gives(e[2], "a = b", e[0], e[1]);
            gives(e[2], "b = a", e[0], e[1]);
            gives(!(Boolean) e[2], "a # b", e[0], e[1]);
        }
    }

    private static void likeFlagsAndLists() {
        CHECKS.says("both FLAGS; both LISTS (NOTHING like NOTHING, else as many numbers, all the same);");
        gives(true, "a = b", true, true);
        gives(true, "a = b", false, false);
        gives(false, "a = b", true, false);
        gives(true, "a # b", false, true);
        int[][] lists = {null, {}, {0}, {0, 0}, {1}, {0, 1}, {1, 0}, new int[20], new int[19], {LEAST}, {MOST}};
        for (int i = 0; i < lists.length; i++) {
            for (int j = 0; j < lists.length; j++) {
                ColumnHouse x = new ColumnHouse();
                x.table(0, 1);
                Checks.lists(x, 0, lists[i]);
                Checks.lists(x, 0, lists[j]);
                CHECKS.gives(x, "from t0 let a = b", 7, i == j ? 1 : 0);
                CHECKS.gives(x, "from t0 let a # b", 7, i == j ? 0 : 1);
            }
        }
        int[] one = new int[20];
        int[] other = new int[20];
        other[19] = 1;
        gives(false, "a = b", one, other);
        one[19] = 1;
        gives(true, "a = b", one, other);
    }

    private static void likeBoxes() {
        CHECKS.says("both boxes, or boxes and kinds 0 to 6 (NOTHING like NOTHING alone, numbers as REALs, texts by "
                + "bytes, no FAULTS but AWAY).");
        Object[] boxes = {null, 0, 1, -0.0, 1.0, 0.5, NAN, "", "a", "ab", "1", INF};
        for (Object one : boxes) {
            for (Object other : boxes) {
                ColumnHouse x = new ColumnHouse();
                x.table(0, 1);
                Checks.boxes(x, 0, 8, one);
                Checks.boxes(x, 0, 8, other);
                boolean numbers = one instanceof Number && other instanceof Number;
                boolean like = numbers ? ((Number) one).doubleValue() == ((Number) other).doubleValue()
                        : one == null ? other == null : one.equals(other);
                CHECKS.gives(x, "from t0 let a = b", 7, like ? 1 : 0);
                CHECKS.gives(x, "from t0 let a # b", 7, like ? 0 : 1);
            }
            for (Object number : new Object[] {0, 1, 1L, 0f, -0f, 0.5f, 1.0, NAN, Float.NaN, INF}) {
                ColumnHouse x = of(number);
                Checks.boxes(x, 0, 8, one);
                boolean like = one instanceof Number && ((Number) one).doubleValue() == ((Number) number).doubleValue();
                CHECKS.gives(x, "from t0 let a = b", 7, like ? 1 : 0);
                CHECKS.gives(x, "from t0 let b # a", 7, like ? 0 : 1);
            }
        }
        ColumnHouse x = of((1L << 53) + 1, 16777217, 0.1f);
        Checks.boxes(x, 0, 9, 0x1p53);
        Checks.boxes(x, 0, 9, 16777217);
        Checks.boxes(x, 0, 9, 0.1);
        CHECKS.gives(x, "from t0 let a = d", 7, 1);
        CHECKS.gives(x, "from t0 let b = e", 7, 1);
        CHECKS.gives(x, "from t0 let c = f", 7, 0);
        CHECKS.gives(x, "from t0 let 'a' = 1", 7, 0);
        CHECKS.gives(x, "from t0 let nil = 'a'", 7, 0);
        CHECKS.gives(x, "from t0 let nil = 0", 7, 0);
    }

    private static void ordered() {
        CHECKS.says("< <= > >=: NUMBERS (a NaN: false);");
        Object[][] each = {{1, 2, -1}, {2, 1, 1}, {1, 1, 0}, {LEAST, MOST, -1}, {-1, 0, -1},
                {Long.MIN_VALUE, Long.MAX_VALUE, -1}, {0.0, -0.0, 0}, {-TINIEST, 0.0, -1}, {0.0, TINIEST, -1},
                {INF, GREATEST, 1}, {-INF, -GREATEST, -1}, {INF, INF, 0}, {16777217, 0x1p24f, 0},
                {16777217, 0x1p24, 1}, {(1L << 53) + 1, 0x1p53, 0}, {Long.MAX_VALUE, 0x1p63, 0}, {0.1f, 0.1, 1},
                {0f, -0f, 0}, {-Float.MIN_VALUE, 0f, -1}, {FINF, Float.MAX_VALUE, 1}, {MOST, 1L + MOST, -1}};
        for (Object[] e : each) {
            int order = (Integer) e[2];
            gives(order < 0, "a < b", e[0], e[1]);
            gives(order <= 0, "a <= b", e[0], e[1]);
            gives(order > 0, "a > b", e[0], e[1]);
            gives(order >= 0, "a >= b", e[0], e[1]);
        }
        for (Object other : new Object[] {1, 1L, 1f, 1.0, NAN, Float.NaN, INF}) {
            for (String sign : new String[] {"<", "<=", ">", ">="}) {
                gives(false, "a " + sign + " b", NAN, other);
                gives(false, "b " + sign + " a", Float.NaN, other);
            }
        }
    }

    private static void logic() {
        CHECKS.says("not, and, or: FLAGS");
        for (boolean a : new boolean[] {false, true}) {
            gives(!a, "not a", a);
            for (boolean b : new boolean[] {false, true}) {
                gives(a && b, "a and b", a, b);
                gives(a || b, "a or b", a, b);
            }
        }
    }

    private static void made(String function, int kind, Object... pairs) {
        for (int i = 0; i + 1 < pairs.length; i += 2) {
            CHECKS.gives(of(pairs[i]), "from t0 let " + function + "(a)", kind, ((Number) pairs[i + 1]).longValue());
        }
    }

    private static void wholeToWhole() {
        CHECKS.says("Whole to whole: the lowest bits;");
        made("tiny", 0, 127, 127, 128, -128, -128, -128, -129, 127, 255, -1, 256, 0, LEAST, 0, Long.MAX_VALUE, -1);
        made("sign", 1, 65535, 65535, 65536, 0, -1, 65535, LEAST, 0, Long.MIN_VALUE + 1, 1);
        made("small", 2, 32767, 32767, 32768, -32768, -32769, 32767, 65536, 0, 0x1ffffffffL, -1);
        made("whole", 3, MOST, MOST, 1L + MOST, LEAST, LEAST - 1L, MOST, 1L << 32, 0, -1L, -1);
        made("long", 4, MOST, MOST, LEAST, LEAST, Long.MIN_VALUE, Long.MIN_VALUE);
        CHECKS.says("of NUMBERS, and FLAGS (1, 0).");
        String[] all = {"tiny", "sign", "small", "whole", "long"};
        for (int kind = 0; kind <= 4; kind++) {
            CHECKS.gives(of(true), "from t0 let " + all[kind] + "(a)", kind, 1);
            CHECKS.gives(of(false), "from t0 let " + all[kind] + "(a)", kind, 0);
        }
        table("single(a)", true, 1f, false, 0f);
        table("real(a)", true, 1.0, false, 0.0);
        ColumnHouse x = new ColumnHouse();
        x.table(0, 1);
        Checks.column(x, 0, 1, 65535);
        Checks.column(x, 0, 0, -1);
        CHECKS.gives(x, "from t0 let small(a)", 2, -1);
        CHECKS.gives(x, "from t0 let tiny(a)", 0, -1);
        CHECKS.gives(x, "from t0 let whole(a)", 3, 65535);
        CHECKS.gives(x, "from t0 let sign(b)", 1, 65535);
        CHECKS.gives(x, "from t0 let long(b)", 4, -1);
    }

    private static void wholeToFloating() {
        CHECKS.says("whole to floating: the nearest (halves to the even one);");
        table("single(a)", 0, 0f, -1, -1f, 16777215, 16777215f, 16777216, 0x1p24f, 16777217, 0x1p24f, 16777218,
                16777218f, 16777219, 16777220f, -16777217, -0x1p24f, 33554434, 33554432f, 33554435, 33554436f, MOST,
                0x1p31f, LEAST, -0x1p31f, Long.MAX_VALUE, 0x1p63f, Long.MIN_VALUE, -0x1p63f, 0x4000004000000000L,
                (float) 0x4000004000000000L, 0x4000004000000001L, (float) 0x4000004000000001L, 9007199791611905L,
                (float) 9007199791611905L);
        table("real(a)", 0, 0.0, MOST, 2147483647.0, LEAST, -2147483648.0, (1L << 53) - 1, 0x1p53 - 1, 1L << 53,
                0x1p53, (1L << 53) + 1, 0x1p53, (1L << 53) + 2, 0x1p53 + 2, (1L << 53) + 3, 0x1p53 + 4,
                -(1L << 53) - 1, -0x1p53, Long.MAX_VALUE, 0x1p63, Long.MIN_VALUE, -0x1p63, Long.MAX_VALUE - 511,
                0x1p63, Long.MAX_VALUE - 512, 0x1p63 - 1024);
    }

    private static void floatingToWhole() {
        CHECKS.says("floating to WHOLE or LONG: cut towards 0, beyond the least or greatest that, of a NaN 0;");
        for (int n = 1; n <= 70; n++) {
            gives(0L, "long(a)", Math.scalb(1.5, -n));
            gives(0, "whole(a)", -Math.scalb(1.5, -n));
            gives(1L << n % 62, "long(a)", Math.scalb(1.0, n % 62));
            gives(n == 1 ? 1L : 0L, "round(a)", Math.scalb(1.5, -n));
            gives(n == 1 ? -1L : 0L, "round(a)", -Math.scalb(1.5, -n));
        }
        table("whole(a)", 0.9, 0, -0.9, 0, 1.0, 1, -1.9, -1, 0.0, 0, -0.0, 0, 2147483646.9, MOST - 1, 2147483647.0,
                MOST, 2147483647.9, MOST, 2147483648.0, MOST, -2147483647.9, -MOST, -2147483648.0, LEAST,
                -2147483648.9, LEAST, -2147483649.0, LEAST, INF, MOST, -INF, LEAST, NAN, 0, GREATEST, MOST, TINIEST,
                0, 0x1p63, MOST, 0x1p31f, MOST, -0x1p31f, LEAST, Float.NaN, 0, FINF, MOST, 2147483520f, 2147483520,
                1e10, MOST, -1e10f, LEAST);
        table("long(a)", 0.9, 0L, -1.9, -1L, 0x1p53, 1L << 53, 0x1p62, 1L << 62, 0x1p63, Long.MAX_VALUE,
                0x1p63 - 1024, Long.MAX_VALUE - 1023, -0x1p63, Long.MIN_VALUE, -0x1p63 - 2048, Long.MIN_VALUE, 0x1p64,
                Long.MAX_VALUE, INF, Long.MAX_VALUE, -INF, Long.MIN_VALUE, NAN, 0L, -0.0, 0L, TINIEST, 0L, -GREATEST,
                Long.MIN_VALUE, 0x1p63f, Long.MAX_VALUE, -0x1p63f, Long.MIN_VALUE, Float.NaN, 0L, 2.5f, 2L);
        CHECKS.says("floating to TINY, SIGN, SMALL: made WHOLE first;");
        made("tiny", 0, 127.9, 127, 128.0, -128, -128.9, -128, -129.0, 127, 1e10, -1, -1e10, 0, NAN, 0, INF, -1, -INF,
                0, 300f, 44);
        made("sign", 1, 65535.9, 65535, 65536.0, 0, -1.5, 65535, -0.5, 0, 1e10, 65535, -1e10, 0, NAN, 0, FINF, 65535);
        made("small", 2, 32767.9, 32767, 32768.0, -32768, -32769.0, 32767, 1e10, -1, -1e10, 0, Float.NaN, 0, -FINF, 0);
    }

    private static void realToSingle() {
        CHECKS.says("REAL to SINGLE the nearest.");
        double[] all = {0.0, -0.0, 0.1, 1 + 0x1p-24, 1 + 0x1p-24 + 0x1p-52, 1 + 3 * 0x1p-24, 1 - 0x1p-25, 0x1p-149,
                0x1p-150, 0x1p-150 * (1 + 0x1p-52), -0x1p-150, -0x1p-150 * (1 + 0x1p-52), 3 * 0x1p-150, 0x1p-151,
                TINIEST, -TINIEST, NORMAL, 0x1p-126, 0x1p-126 - 0x1p-150, 0x1p-126 - 0x1p-151, Float.MAX_VALUE,
                0x1.fffffep127 + 0x1p102, 0x1.ffffffp127, Math.nextDown(0x1.ffffffp127), -0x1.ffffffp127, 0x1p128,
                GREATEST, -GREATEST, INF, -INF, NAN};
        for (double a : all) {
            gives((float) a, "single(a)", a);
        }
        table("single(a)", 0x1.ffffffp127, FINF, 0x1p-150, 0f, -0x1p-150, -0f, 3 * 0x1p-150, 0x1p-148f);
        table("real(single(a))", 0x1.ffffffp127, INF, -0x1.ffffffp127, -INF, 0.1, (double) 0.1f, 0x1p-150, 0.0);
        table("single(a) - single(a)", 0x1.ffffffp127, Float.NaN, 0.1, 0f);
        table("single(box(a))", 0.1, 0.1f, 0x1p128, FINF, 16777217, 0x1p24f, -0.7, -0.7f);
        CHECKS.says("(made a SINGLE)");
        CHECKS.gives(of(1), "from t0 let 999999.999f", 5, Checks.single(1000000f));
        CHECKS.gives(of(1), "from t0 let 0.3f", 5, Checks.single(0.3f));
    }

    private static void sizes() {
        CHECKS.says("(a NaN gives NaN; -0 is less than 0; the least whole's abs is itself)");
        table("abs(a)", 0, 0, -1, 1, MOST, MOST, -MOST, MOST, LEAST, LEAST, Long.MIN_VALUE, Long.MIN_VALUE,
                Long.MIN_VALUE + 1, Long.MAX_VALUE, -5L, 5L, -0.0, 0.0, 0.0, 0.0, -0f, 0f, NAN, NAN, Float.NaN,
                Float.NaN, -INF, INF, -FINF, FINF, -TINIEST, TINIEST, -GREATEST, GREATEST, -1.5f, 1.5f);
        ColumnHouse x = new ColumnHouse();
        x.table(0, 1);
        Checks.column(x, 0, 0, -128);
        Checks.column(x, 0, 2, -32768);
        CHECKS.gives(x, "from t0 let abs(a)", 3, 128);
        CHECKS.gives(x, "from t0 let abs(b)", 3, 32768);
    }

    private static void extremes() {
        CHECKS.says("(a NaN gives NaN; -0 is less than 0; the least whole's abs is itself)");
        Object[][] each = {{1, 2, 2, 1}, {LEAST, MOST, MOST, LEAST}, {-1, 0, 0, -1}, {5, 5, 5, 5},
                {Long.MIN_VALUE, 1L, 1L, Long.MIN_VALUE}, {MOST, 1L + MOST, 1L + MOST, (long) MOST},
                {0.0, -0.0, 0.0, -0.0}, {0f, -0f, 0f, -0f}, {-0.0, -0.0, -0.0, -0.0}, {NAN, 1.0, NAN, NAN},
                {INF, NAN, NAN, NAN}, {Float.NaN, 1f, Float.NaN, Float.NaN}, {Float.NaN, 1, Float.NaN, Float.NaN},
                {INF, -INF, INF, -INF}, {0.0, TINIEST, TINIEST, 0.0}, {-TINIEST, -0.0, -0.0, -TINIEST},
                {0, -0.0, 0.0, -0.0}, {0, -0f, 0f, -0f}, {16777217, 0f, 0x1p24f, 0f}, {0.1f, 0.1, (double) 0.1f, 0.1},
                {1, 2L, 2L, 1L}};
        for (Object[] e : each) {
            gives(e[2], "max(a, b)", e[0], e[1]);
            gives(e[2], "max(b, a)", e[0], e[1]);
            gives(e[3], "min(a, b)", e[0], e[1]);
            gives(e[3], "min(b, a)", e[0], e[1]);
        }
    }

    private static void wholeNumbersNear() {
        CHECKS.says("floor, ceil, rint (halves to the even one)");
        double[] reals = {0.0, -0.0, 0.25, -0.25, 0.5, -0.5, 0.75, -0.75, 1.0, -1.0, 1.5, -1.5, 2.5, -2.5, 3.5,
                0.49999999999999994, 0.5000000000000001, TINIEST, -TINIEST, NORMAL, 1 - 0x1p-53, 1 + 0x1p-52,
                -1 - 0x1p-52, 0x1p51 + 0.5, 0x1p51 + 1.5, 0x1p52 - 0.5, 0x1p52 + 1, 0x1p53, GREATEST, -GREATEST, INF,
                -INF, NAN};
        for (double a : reals) {
            gives(Math.floor(a), "floor(a)", a);
            gives(Math.ceil(a), "ceil(a)", a);
            gives(Math.rint(a), "rint(a)", a);
        }
        float[] singles = {0f, -0f, 0.25f, -0.25f, 0.5f, -0.5f, 1.5f, 2.5f, -2.5f, 0.49999997f, Float.MIN_VALUE,
                -Float.MIN_VALUE, 0x1p22f + 0.5f, 0x1p22f + 1.5f, 0x1p23f - 0.5f, 0x1p23f + 1, Float.MAX_VALUE, FINF,
                -FINF, Float.NaN};
        for (float a : singles) {
            gives((float) Math.floor(a), "floor(a)", a);
            gives((float) Math.ceil(a), "ceil(a)", a);
            gives((float) Math.rint(a), "rint(a)", a);
        }
        table("ceil(a)", -0.5, -0.0, 0.0, 0.0, -TINIEST, -0.0, TINIEST, 1.0);
        table("floor(a)", -TINIEST, -1.0, TINIEST, 0.0, -0.0, -0.0);
        table("rint(a)", 0.5, 0.0, -0.5, -0.0, 1.5, 2.0, 2.5, 2.0, -1.5, -2.0);
    }

    private static void rounded() {
        CHECKS.says("round (SINGLE to WHOLE, REAL to LONG: the floor of it and a half together, exactly, made as told "
                + "above)");
        table("round(a)", 0.0, 0L, -0.0, 0L, 0.5, 1L, -0.5, 0L, -0.51, -1L, 1.5, 2L, -1.5, -1L, 2.5, 3L, -2.5, -2L,
                0.49999999999999994, 0L, -0.5000000000000001, -1L, 0x1p52 + 1, (1L << 52) + 1, 0x1p53 - 1,
                (1L << 53) - 1, 0x1p52 - 0.5, 1L << 52, 0x1p63, Long.MAX_VALUE, -0x1p63, Long.MIN_VALUE,
                -0x1p63 - 2048, Long.MIN_VALUE, GREATEST, Long.MAX_VALUE, INF, Long.MAX_VALUE, -INF, Long.MIN_VALUE,
                NAN, 0L, TINIEST, 0L, -TINIEST, 0L, 0x1p62, 1L << 62, 0x1p-60, 0L);
        table("round(a)", 0f, 0, 0.5f, 1, -0.5f, 0, 1.5f, 2, -1.5f, -1, 0.49999997f, 0, -0.50000006f, -1, 8388607.5f,
                8388608, 16777216f, 16777216, 0x1p31f, MOST, -0x1p31f, LEAST, -0x1p32f, LEAST, 2147483520f,
                2147483520, Float.MAX_VALUE, MOST, FINF, MOST, -FINF, LEAST, Float.NaN, 0, Float.MIN_VALUE, 0,
                -Float.MIN_VALUE, 0);
    }

    private static void roots() {
        CHECKS.says("sqrt (of a SINGLE as a REAL, made SINGLE)");
        double[] reals = {0.0, -0.0, 1, 2, 4, 0.25, TINIEST, 3 * TINIEST, NORMAL, GREATEST, INF, -INF, -1, -TINIEST,
                NAN, 1 + 0x1p-52, 0x1p53, 3, 2 - 0x1p-52, 4 - 0x1p-51, 1 - 0x1p-53, 0x1.0000000000003p1,
                0x1.5555555555557p0, 0x1p1022 - 0x1p969, 9, 0.1};
        for (double a : reals) {
            gives(Math.sqrt(a), "sqrt(a)", a);
        }
        float[] singles = {0f, -0f, 1f, 2f, 4f, Float.MIN_VALUE, Float.MIN_NORMAL, Float.MAX_VALUE, FINF, -FINF, -1f,
                Float.NaN, 3f, 0.1f};
        for (float a : singles) {
            gives((float) Math.sqrt(a), "sqrt(a)", a);
        }
        table("sqrt(a)", -0.0, -0.0, -1.0, NAN, 4f, 2f);
    }

    private static void signs() {
        CHECKS.says("signum,");
        table("signum(a)", 0.0, 0.0, -0.0, -0.0, TINIEST, 1.0, -TINIEST, -1.0, INF, 1.0, -INF, -1.0, NAN, NAN,
                GREATEST, 1.0, 0f, 0f, -0f, -0f, Float.MIN_VALUE, 1f, -Float.MIN_VALUE, -1f, FINF, 1f, -FINF, -1f,
                Float.NaN, Float.NaN);
    }

    private static void units() {
        CHECKS.says("ulp (to the next greater in size; of 0 the least one; of what is infinite infinity, without "
                + "sign)");
        table("ulp(a)", 0.0, TINIEST, -0.0, TINIEST, TINIEST, TINIEST, NORMAL, TINIEST, NORMAL * 2, TINIEST * 2,
                NORMAL * 2 - TINIEST, TINIEST, 1.0, 0x1p-52, -1.0, 0x1p-52, 1 - 0x1p-53, 0x1p-53, 2.0, 0x1p-51,
                GREATEST, 0x1p971, -GREATEST, 0x1p971, INF, INF, -INF, INF, NAN, NAN);
        table("ulp(a)", 0f, Float.MIN_VALUE, -0f, Float.MIN_VALUE, Float.MIN_VALUE, Float.MIN_VALUE, Float.MIN_NORMAL,
                Float.MIN_VALUE, 2 * Float.MIN_NORMAL, 2 * Float.MIN_VALUE, 1f, 0x1p-23f, -1f, 0x1p-23f, 1 - 0x1p-24f,
                0x1p-24f, Float.MAX_VALUE, 0x1p104f, -FINF, FINF, FINF, FINF, Float.NaN, Float.NaN);
    }

    private static void nexts() {
        CHECKS.says("next (the next greater one; of infinity that)");
        table("next(a)", 0.0, TINIEST, -0.0, TINIEST, TINIEST, 2 * TINIEST, -TINIEST, -0.0, -2 * TINIEST, -TINIEST,
                NORMAL - TINIEST, NORMAL, 1.0, 1 + 0x1p-52, -1.0, -1 + 0x1p-53, GREATEST, INF, -GREATEST,
                -Math.nextDown(GREATEST), INF, INF, -INF, -GREATEST, NAN, NAN);
        table("next(a)", 0f, Float.MIN_VALUE, -0f, Float.MIN_VALUE, -Float.MIN_VALUE, -0f, 1f, 1 + 0x1p-23f, -1f,
                -1 + 0x1p-24f, Float.MAX_VALUE, FINF, FINF, FINF, -FINF, -Float.MAX_VALUE, Float.NaN, Float.NaN,
                Float.MIN_NORMAL - Float.MIN_VALUE, Float.MIN_NORMAL);
    }

    private static void exponents() {
        CHECKS.says("expo (the exponent of 2 as a WHOLE; of 0 and what is below the normal ones -127, -1023, of what "
                + "is infinite or NaN 128, 1024)");
        table("expo(a)", 0.0, -1023, -0.0, -1023, TINIEST, -1023, NORMAL - TINIEST, -1023, NORMAL, -1022, -NORMAL,
                -1022, 1.0, 0, 1 - 0x1p-53, -1, 2.0, 1, -3.5, 1, GREATEST, 1023, INF, 1024, -INF, 1024, NAN, 1024);
        table("expo(a)", 0f, -127, -0f, -127, Float.MIN_VALUE, -127, Float.MIN_NORMAL - Float.MIN_VALUE, -127,
                Float.MIN_NORMAL, -126, 1f, 0, 1 - 0x1p-24f, -1, 2f, 1, Float.MAX_VALUE, 127, FINF, 128, -FINF, 128,
                Float.NaN, 128);
    }

    private static void copiedSigns() {
        CHECKS.says("copy(x, y): x with the sign of y (a NaN's is +)");
        Object[][] each = {{1.0, -2.0, -1.0}, {-1.0, 2.0, 1.0}, {1.0, -0.0, -1.0}, {-1.0, 0.0, 1.0},
                {0.0, -1.0, -0.0}, {-0.0, 1.0, 0.0}, {INF, -1.0, -INF}, {1.0, -INF, -1.0}, {-1.0, NAN, 1.0},
                {NAN, -1.0, NAN}, {NAN, NAN, NAN}, {1f, -2f, -1f}, {-1f, Float.NaN, 1f}, {Float.NaN, -1f, Float.NaN},
                {1f, -2.0, -1.0}, {1.5, -2f, -1.5}, {-0.1f, NAN, (double) 0.1f}, {TINIEST, -TINIEST, -TINIEST}};
        for (Object[] e : each) {
            gives(e[2], "copy(a, b)", e[0], e[1]);
        }
        ColumnHouse x = new ColumnHouse();
        x.table(0, 1);
        Checks.column(x, 0, 6, Checks.real(-1.0));
        Checks.column(x, 0, 6, -1L);
        CHECKS.gives(x, "from t0 let copy(a, b)", 6, Checks.real(1.0));
    }

    private static void multipliedAndAdded() {
        CHECKS.says("mad(x, y, z): x * y + z, as * and then + tell it, each one made of their kind together ahead:");
        double near = 1 + 0x1p-52;
        gives(near * near - 1, "mad(a, b, c)", near, near, -1.0);
        gives(0x1p-51, "mad(a, b, c)", near, near, -1.0);
        gives(INF, "mad(a, b, c)", GREATEST, 2.0, -GREATEST);
        gives(NAN, "mad(a, b, c)", GREATEST, 2.0, -INF);
        gives(NAN, "mad(a, b, c)", 0.0, INF, 1.0);
        gives(NAN, "mad(a, b, c)", 1.0, 1.0, NAN);
        gives(0.0, "mad(a, b, c)", -1.0, 0.0, 0.0);
        gives(-0.0, "mad(a, b, c)", -1.0, 0.0, -0.0);
        gives(0.0, "mad(a, b, c)", TINIEST, 0.5, 0.0);
        gives(FINF, "mad(a, b, c)", Float.MAX_VALUE, 2f, -Float.MAX_VALUE);
        float f = 1 + 0x1p-23f;
        gives(f * f - 1f, "mad(a, b, c)", f, f, -1f);
        gives((double) f * f - 1.0, "mad(a, b, c)", f, f, -1.0);
        gives((double) Float.MAX_VALUE * 2, "mad(a, b, c)", Float.MAX_VALUE, 2f, 0.0);
        gives((double) f * 0.1 + 3f, "mad(a, b, c)", f, 0.1, 3f);
        gives(0.1 * f + 3f, "mad(a, b, c)", 0.1, f, 3f);
    }

    private static void scaled() {
        CHECKS.says("scalb(x, n): x, SINGLE or REAL, by 2 to the n (kinds 0 to 3), rounded once.");
        Object[][] each = {{1.0, 0, 1.0}, {1.0, 1, 2.0}, {1.0, 1023, 0x1p1023}, {1.0, 1024, INF}, {-1.0, 1024, -INF},
                {1.0, -1022, NORMAL}, {1.0, -1074, TINIEST}, {1.0, -1075, 0.0}, {-1.0, -1075, -0.0},
                {1.5, -1075, TINIEST}, {1.5, -1074, 2 * TINIEST}, {2.5, -1074, 2 * TINIEST},
                {3.5, -1074, 4 * TINIEST}, {TINIEST, 2097, 0x1p1023}, {TINIEST, 2098, INF},
                {GREATEST, -2098, TINIEST}, {GREATEST, -2099, 0.0}, {GREATEST, -2097, 2 * TINIEST}, {1.0, MOST, INF},
                {1.0, LEAST, 0.0}, {-1.0, LEAST, -0.0}, {0.0, MOST, 0.0}, {-0.0, MOST, -0.0}, {INF, LEAST, INF},
                {-INF, 5, -INF}, {NAN, 5, NAN}, {1f, 127, 0x1p127f}, {1f, 128, FINF}, {1f, -149, Float.MIN_VALUE},
                {1f, -150, 0f}, {-1f, -150, -0f}, {1.5f, -150, Float.MIN_VALUE}, {2.5f, -149, 2 * Float.MIN_VALUE},
                {3.5f, -149, 4 * Float.MIN_VALUE}, {Float.MIN_VALUE, 276, 0x1p127f}, {Float.MIN_VALUE, 277, FINF},
                {1f, MOST, FINF}, {1f, LEAST, 0f}, {0f, 9, 0f}, {-0f, 9, -0f}, {Float.NaN, 1, Float.NaN},
                {FINF, -9, FINF}, {1f + 0x1p-23f, -127, Math.scalb(1f + 0x1p-23f, -127)}};
        for (Object[] e : each) {
            gives(e[2], "scalb(a, b)", e[0], e[1]);
        }
        double once = (1 + 0x1p-52) * 0x1p-1;
        gives(Math.scalb(once, -1073), "scalb(a, b)", once, -1073);
        ColumnHouse x = new ColumnHouse();
        x.table(0, 1);
        Checks.column(x, 0, 6, Checks.real(1));
        Checks.column(x, 0, 0, -128);
        Checks.column(x, 0, 1, 65535);
        Checks.column(x, 0, 2, -32768);
        CHECKS.gives(x, "from t0 let scalb(a, b)", 6, Checks.real(0x1p-128));
        CHECKS.gives(x, "from t0 let scalb(a, c)", 6, Checks.real(INF));
        CHECKS.gives(x, "from t0 let scalb(a, d)", 6, 0);
    }

    private static void bits() {
        CHECKS.says("bits: SINGLE to WHOLE, REAL to LONG: its bits (any NaN's: 0x7fc00000, 0x7ff8000000000000);");
        for (double a : new double[] {0.0, -0.0, 1, -1, TINIEST, -TINIEST, NORMAL, GREATEST, INF, -INF, NAN}) {
            gives(Double.doubleToLongBits(a), "bits(a)", a);
        }
        float[] singles = {0f, -0f, 1f, -1f, Float.MIN_VALUE, -Float.MIN_VALUE, Float.MIN_NORMAL, Float.MAX_VALUE,
                FINF, -FINF, Float.NaN};
        for (float a : singles) {
            gives(Float.floatToIntBits(a), "bits(a)", a);
        }
        CHECKS.says("from: WHOLE to SINGLE, LONG to REAL: what has these bits.");
        for (int b : new int[] {0, 1, LEAST, LEAST + 1, 0x007fffff, 0x00800000, 0x7f7fffff, 0x7f800000, 0x7f800001,
                0x7fc00000, MOST, 0xff800000, 0xff800001, -1, 0x3f800000}) {
            gives(Float.intBitsToFloat(b), "from(a)", b);
            boolean nan = Float.isNaN(Float.intBitsToFloat(b));
            gives(nan ? 0x7fc00000 : b, "bits(from(a))", b);
        }
        for (long b : new long[] {0, 1, Long.MIN_VALUE, Long.MIN_VALUE + 1, 0x000fffffffffffffL, 0x0010000000000000L,
                0x7fefffffffffffffL, 0x7ff0000000000000L, 0x7ff0000000000001L, 0x7ff8000000000000L, Long.MAX_VALUE,
                0xfff0000000000000L, 0xfff0000000000001L, -1}) {
            gives(Double.longBitsToDouble(b), "from(a)", b);
            boolean nan = Double.isNaN(Double.longBitsToDouble(b));
            gives(nan ? 0x7ff8000000000000L : b, "bits(from(a))", b);
        }
    }
}
