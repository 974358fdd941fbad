import java.util.Random;
import java.util.function.IntPredicate;
import java.util.function.IntToDoubleFunction;
import java.util.function.Supplier;

/** Promises 10 and 15: what queries reckon of SINGLEs and REALs is what the Java machine has for it. */
public final class RealsTest {
    private static final Checks CHECKS = new Checks("RealsTest");
    private static final Random RANDOM = new Random(754);
    private static final int ROWS = 60;

    private static final double[] REALS = {
        0.0, -0.0, 1, -1, 0.5, -0.5, 1.5, 2.5, -2.5, 0.49999999999999994, 3, 10, 1e16, -1e16,
        Double.MIN_VALUE, -Double.MIN_VALUE, Double.MIN_NORMAL, Double.MAX_VALUE, -Double.MAX_VALUE,
        Double.POSITIVE_INFINITY, Double.NEGATIVE_INFINITY, Double.NaN, 4503599627370495.5,
        4503599627370496.5, 9007199254740993.0, 2147483647.5, -2147483648.5, 9.223372036854776E18,
        -9.223372036854776E18, Float.MAX_VALUE, 3.4028235677973366E38, Float.MIN_VALUE,
        Float.MIN_VALUE / 2.0, Float.MIN_NORMAL, 1.0000000596046448, 1.0000000596046450
    };
    private static final float[] SINGLES = {
        0f, -0f, 1f, -1f, 0.5f, -0.5f, 1.5f, 2.5f, 0.49999997f, 8388607.5f, 8388609f, 16777216f,
        Float.MIN_VALUE, -Float.MIN_VALUE, Float.MIN_NORMAL, Float.MAX_VALUE, -Float.MAX_VALUE,
        Float.POSITIVE_INFINITY, Float.NEGATIVE_INFINITY, Float.NaN, 2.14748365E9f, -2.14748365E9f
    };
    private static final long[] WHOLES = {
        0, 1, -1, Long.MIN_VALUE, Long.MAX_VALUE, Integer.MIN_VALUE, Integer.MAX_VALUE, 16777217,
        -16777217, 9007199254740993L, 9007199254740995L, 9007199791611905L, 36028797018963967L, 5000, -5000,
        127, 128, 32768, 65536, 0x7fffffbfffffffffL, 0x4000004000000001L, 0x4000004000000000L
    };

    private static final double[] a = new double[ROWS];
    private static final double[] b = new double[ROWS];
    private static final float[] f = new float[ROWS];
    private static final float[] g = new float[ROWS];
    private static final long[] v = new long[ROWS];
    private static final int[] n = new int[ROWS];

    /** What is due for a row. */
    private interface Due {
        long of(int r);
    }

    public static void main(String[] args) {
        for (int round = 0; round < 60; round++) {
            fill();
            ofReals();
            ofSingles();
            ofWholes();
        }
        CHECKS.end();
    }

    private static void fill() {
        for (int r = 0; r < ROWS; r++) {
            a[r] = someReal();
            b[r] = RANDOM.nextInt(4) == 0 ? near(a[r]) : someReal();
            f[r] = someSingle();
            g[r] = RANDOM.nextInt(4) == 0 ? -Math.nextUp(f[r]) : someSingle();
            v[r] = someWhole();
            n[r] = RANDOM.nextInt(5) == 0 ? (int) someWhole() : RANDOM.nextInt(4400) - 2200;
        }
    }

    private static double someReal() {
        switch (RANDOM.nextInt(6)) {
            case 0:
                return REALS[RANDOM.nextInt(REALS.length)];
            case 1:
                return RANDOM.nextInt(2000) / 8.0 - 100;
            case 2:
                return Double.longBitsToDouble(RANDOM.nextLong() & 0x800fffffffffffffL);
            case 3:
                return Math.scalb(RANDOM.nextLong() + 0.0, RANDOM.nextInt(80) - 60);
            case 4:
                return someSingle();
            default:
                return Double.longBitsToDouble(RANDOM.nextLong());
        }
    }

    private static double near(double x) {
        double y = RANDOM.nextBoolean() ? Math.nextUp(x) : Math.nextDown(x / 2);
        return RANDOM.nextBoolean() ? y : -y;
    }

    private static float someSingle() {
        switch (RANDOM.nextInt(4)) {
            case 0:
                return SINGLES[RANDOM.nextInt(SINGLES.length)];
            case 1:
                return RANDOM.nextInt(2000) / 8f - 100;
            case 2:
                return Float.intBitsToFloat(RANDOM.nextInt() & 0x807fffff);
            default:
                return Float.intBitsToFloat(RANDOM.nextInt());
        }
    }

    private static long someWhole() {
        int kind = RANDOM.nextInt(3);
        if (kind == 0) {
            return WHOLES[RANDOM.nextInt(WHOLES.length)];
        }
        return kind == 1 ? RANDOM.nextLong() : RANDOM.nextLong() >> RANDOM.nextInt(64);
    }

    private static void check(Supplier<ColumnHouse> made, String ex, int kind, Due due) {
        ColumnHouse x = made.get();
        CHECKS.due(ex, Checks.ask(x, "from t0 let " + ex), ROWS);
        int column = x.size(6, 1) - 1;
        CHECKS.due(ex + " kind", x.kind(6, column), kind);
        for (int r = 0; r < ROWS; r++) {
            CHECKS.due(ex + " row " + r, x.cell(6, column, r), due.of(r));
        }
    }

    private static void real(Supplier<ColumnHouse> x, String ex, IntToDoubleFunction due) {
        check(x, ex, 6, r -> Double.doubleToLongBits(due.applyAsDouble(r)));
    }

    /** What is due is a SINGLE, widened. */
    private static void single(Supplier<ColumnHouse> x, String ex, IntToDoubleFunction due) {
        check(x, ex, 5, r -> Float.floatToIntBits((float) due.applyAsDouble(r)));
    }

    private static void flag(Supplier<ColumnHouse> x, String ex, IntPredicate due) {
        check(x, ex, 7, r -> due.test(r) ? 1 : 0);
    }

    private static ColumnHouse reals() {
        ColumnHouse x = new ColumnHouse();
        x.table(0, ROWS);
        x.column(0, 6);
        x.column(0, 6);
        x.column(0, 3);
        for (int r = 0; r < ROWS; r++) {
            x.put(0, 0, r, Double.doubleToRawLongBits(a[r]));
            x.put(0, 1, r, Double.doubleToRawLongBits(b[r]));
            x.put(0, 2, r, n[r]);
        }
        return x;
    }

    private static void ofReals() {
        Supplier<ColumnHouse> x = RealsTest::reals;
        real(x, "a", r -> a[r]);
        real(x, "a + b", r -> a[r] + b[r]);
        real(x, "a - b", r -> a[r] - b[r]);
        real(x, "a * b", r -> a[r] * b[r]);
        real(x, "a / b", r -> a[r] / b[r]);
        real(x, "a % b", r -> a[r] % b[r]);
        real(x, "-a", r -> -a[r]);
        real(x, "abs(a)", r -> Math.abs(a[r]));
        real(x, "max(a, b)", r -> Math.max(a[r], b[r]));
        real(x, "min(a, b)", r -> Math.min(a[r], b[r]));
        real(x, "floor(a)", r -> Math.floor(a[r]));
        real(x, "ceil(a)", r -> Math.ceil(a[r]));
        real(x, "rint(a)", r -> Math.rint(a[r]));
        real(x, "sqrt(a)", r -> Math.sqrt(a[r]));
        real(x, "signum(a)", r -> Math.signum(a[r]));
        real(x, "ulp(a)", r -> Math.ulp(a[r]));
        real(x, "next(a)", r -> Math.nextUp(a[r]));
        real(x, "copy(a, b)", r -> Math.copySign(a[r], Double.isNaN(b[r]) ? 1 : b[r]));
        real(x, "mad(a, b, a)", r -> a[r] * b[r] + a[r]);
        real(x, "scalb(a, c)", r -> Math.scalb(a[r], n[r]));
        real(x, "from(bits(a))", r -> a[r]);
        check(x, "round(a)", 4, r -> Math.round(a[r]));
        check(x, "expo(a)", 3, r -> Math.getExponent(a[r]));
        check(x, "bits(a)", 4, r -> Double.doubleToLongBits(a[r]));
        check(x, "long(a)", 4, r -> (long) a[r]);
        check(x, "whole(a)", 3, r -> (int) a[r]);
        check(x, "small(a)", 2, r -> (short) (int) a[r]);
        check(x, "sign(a)", 1, r -> (char) (int) a[r]);
        check(x, "tiny(a)", 0, r -> (byte) (int) a[r]);
        single(x, "single(a)", r -> (float) a[r]);
        flag(x, "a < b", r -> a[r] < b[r]);
        flag(x, "a <= b", r -> a[r] <= b[r]);
        flag(x, "a > b", r -> a[r] > b[r]);
        flag(x, "a >= b", r -> a[r] >= b[r]);
        flag(x, "a = b", r -> a[r] == b[r]);
        flag(x, "a # b", r -> a[r] != b[r]);
        flag(x, "missing(a)", r -> Double.isNaN(a[r]));
    }

    private static ColumnHouse singles() {
        ColumnHouse x = new ColumnHouse();
        x.table(0, ROWS);
        x.column(0, 5);
        x.column(0, 5);
        x.column(0, 3);
        for (int r = 0; r < ROWS; r++) {
            x.put(0, 0, r, Float.floatToRawIntBits(f[r]));
            x.put(0, 1, r, Float.floatToRawIntBits(g[r]) & 0xffffffffL);
            x.put(0, 2, r, n[r] / 8);
        }
        return x;
    }

    private static void ofSingles() {
        Supplier<ColumnHouse> x = RealsTest::singles;
        single(x, "a", r -> f[r]);
        single(x, "a + b", r -> f[r] + g[r]);
        single(x, "a - b", r -> f[r] - g[r]);
        single(x, "a * b", r -> f[r] * g[r]);
        single(x, "a / b", r -> f[r] / g[r]);
        single(x, "a % b", r -> f[r] % g[r]);
        single(x, "-a", r -> -f[r]);
        single(x, "abs(a)", r -> Math.abs(f[r]));
        single(x, "max(a, b)", r -> Math.max(f[r], g[r]));
        single(x, "min(a, b)", r -> Math.min(f[r], g[r]));
        single(x, "floor(a)", r -> (float) Math.floor(f[r]));
        single(x, "ceil(a)", r -> (float) Math.ceil(f[r]));
        single(x, "rint(a)", r -> (float) Math.rint(f[r]));
        single(x, "sqrt(a)", r -> (float) Math.sqrt(f[r]));
        single(x, "signum(a)", r -> Math.signum(f[r]));
        single(x, "ulp(a)", r -> Math.ulp(f[r]));
        single(x, "next(a)", r -> Math.nextUp(f[r]));
        single(x, "copy(a, b)", r -> Math.copySign(f[r], Float.isNaN(g[r]) ? 1 : g[r]));
        single(x, "mad(a, b, a)", r -> f[r] * g[r] + f[r]);
        single(x, "scalb(a, c)", r -> Math.scalb(f[r], n[r] / 8));
        single(x, "from(bits(a))", r -> f[r]);
        real(x, "real(a)", r -> f[r]);
        check(x, "round(a)", 3, r -> Math.round(f[r]));
        check(x, "expo(a)", 3, r -> Math.getExponent(f[r]));
        check(x, "bits(a)", 3, r -> Float.floatToIntBits(f[r]));
        check(x, "long(a)", 4, r -> (long) f[r]);
        check(x, "whole(a)", 3, r -> (int) f[r]);
        check(x, "tiny(a)", 0, r -> (byte) (int) f[r]);
        flag(x, "a < b", r -> f[r] < g[r]);
        flag(x, "a = b", r -> f[r] == g[r]);
        flag(x, "missing(a)", r -> Float.isNaN(f[r]));
    }

    private static ColumnHouse wholes() {
        ColumnHouse x = new ColumnHouse();
        x.table(0, ROWS);
        x.column(0, 4);
        x.column(0, 3);
        x.column(0, 5);
        x.column(0, 6);
        for (int r = 0; r < ROWS; r++) {
            x.put(0, 0, r, v[r]);
            x.put(0, 1, r, n[r]);
            x.put(0, 2, r, Float.floatToRawIntBits(f[r]));
            x.put(0, 3, r, Double.doubleToRawLongBits(a[r]));
        }
        return x;
    }

    private static void ofWholes() {
        Supplier<ColumnHouse> x = RealsTest::wholes;
        single(x, "single(a)", r -> (float) v[r]);
        real(x, "real(a)", r -> (double) v[r]);
        single(x, "single(b)", r -> (float) n[r]);
        single(x, "a + c", r -> (float) v[r] + f[r]);
        single(x, "c * b", r -> f[r] * (float) n[r]);
        real(x, "d - a", r -> a[r] - (double) v[r]);
        real(x, "c + d", r -> f[r] + a[r]);
        real(x, "mad(c, d, c)", r -> (double) f[r] * a[r] + f[r]);
        flag(x, "a = c", r -> (float) v[r] == f[r]);
        flag(x, "a < d", r -> (double) v[r] < a[r]);
        check(x, "small(a)", 2, r -> (short) v[r]);
        check(x, "a * b", 4, r -> v[r] * n[r]);
        check(x, "b * b", 3, r -> n[r] * n[r]);
        check(x, "abs(a)", 4, r -> Math.abs(v[r]));
        check(x, "abs(b)", 3, r -> Math.abs(n[r]));
    }
}
