/** Promises 10, 11 and 18: the steps of queries, their FAULTS and what they take of CREDIT. */
public final class StepsTest {
    private static final Checks CHECKS = new Checks("StepsTest");

    public static void main(String[] args) {
        from();
        where();
        let();
        keep();
        join();
        joinRefuses();
        group();
        groupRefuses();
        folds();
        foldsRefuse();
        sort();
        sortOfBoxes();
        sortRefuses();
        first();
        into();
        over();
        overRefuses();
        credit();
        withoutCredit();
        CHECKS.end();
    }

    /** Table 0: a WHOLEs, b FLAGS, c BOXES; table 1: a WHOLEs, b TINY; table 2 has rows below 0. */
    private static ColumnHouse house() {
        ColumnHouse x = new ColumnHouse();
        x.table(0, 4);
        Checks.column(x, 0, 3, 5, 7, 5, 9);
        Checks.column(x, 0, 7, 1, 0, 1, 0);
        x.column(0, 8);
        x.box(0, 2, 0, 3, Checks.text("x"));
        x.box(0, 2, 3, 1, 4);
        x.table(1, 3);
        Checks.column(x, 1, 3, 9, 5, 5);
        Checks.column(x, 1, 0, 1, 2, 3);
        x.table(2, -4);
        return x;
    }

    private static void from() {
        ColumnHouse x = house();
        CHECKS.fine(x, "from t0", 4);
        CHECKS.due("columns", x.size(6, 1), 3);
        CHECKS.cells(x, "a", 0, 5, 7, 5, 9);
        CHECKS.due("a box", x.sort(6, 2, 0), 3);
        CHECKS.due("NOTHING", x.sort(6, 2, 1), 0);
        x.put(0, 0, 0, 77);
        CHECKS.cells(x, "the RESULT is its own", 0, 5, 7, 5, 9);
        CHECKS.fault(x, "from t2", 3, 0, -1);
        CHECKS.fine(x, "from t5", 0);
        CHECKS.due("no columns", x.size(6, 1), 0);
        x.away(0, 0, true);
        CHECKS.fine(x, "from t0", 4);
        CHECKS.due("AWAY stays", x.kind(6, 0), 19);
        CHECKS.due("its elements lie there", x.cell(6, 0, 0), 77);
        CHECKS.due("the RESULT can't be changed", x.put(6, 0, 0, 1), -1);
    }

    private static void where() {
        ColumnHouse x = house();
        CHECKS.fine(x, "from t0 where a = 5", 2);
        CHECKS.cells(x, "a", 0, 5, 5);
        CHECKS.due("the boxes come along", x.sort(6, 2, 0), 3);
        CHECKS.fine(x, "from t0 where b where a < 0", 0);
        CHECKS.due("columns stay", x.size(6, 1), 3);
        CHECKS.fault(x, "from t0 where a", 4, 8, -1);
        x.away(0, 1, true);
        CHECKS.fault(x, "from t0 where b", 1, 8, 0);
        CHECKS.fault(x, "from t0 where a = 5", 1, 8, -1);
        CHECKS.fine(x, "from t0 where a = 6", 0);
        CHECKS.due("what is made is not AWAY", x.kind(6, 1), 7);
        CHECKS.fine(x, "from t0 where a = 6 where b", 0);
    }

    private static void let() {
        ColumnHouse x = house();
        CHECKS.fine(x, "from t0 let a + 1 let d * 2", 4);
        CHECKS.cells(x, "d", 3, 6, 8, 6, 10);
        CHECKS.cells(x, "e", 4, 12, 16, 12, 20);
        CHECKS.fault(x, "from t0 let d", 2, 12, -1);
        CHECKS.fault(x, "from t0 let a + (d)", 2, 17, -1);
        String wide = "from t0" + " let 1".repeat(13);
        CHECKS.fine(x, wide, 4);
        CHECKS.due("16 columns", x.size(6, 1), 16);
        CHECKS.fault(x, wide + " let p", 7, wide.length() + 1, -1);
        CHECKS.fault(x, wide + " let a / 0", 7, wide.length() + 1, -1);
        x.away(0, 0, true);
        CHECKS.fine(x, "from t0 let a let (a) let safe(a, b)", 4);
        for (int c = 3; c <= 5; c++) {
            CHECKS.due("AWAY by itself", x.kind(6, c), 19);
            CHECKS.due("what lies there", x.cell(6, c, 1), 7);
        }
        CHECKS.fault(x, "from t0 let -a", 1, 12, 0);
    }

    private static void keep() {
        ColumnHouse x = house();
        CHECKS.fine(x, "from t0 keep b, a, b", 4);
        CHECKS.due("columns", x.size(6, 1), 3);
        CHECKS.due("kind", x.kind(6, 0), 7);
        CHECKS.due("kind", x.kind(6, 1), 3);
        CHECKS.due("kind", x.kind(6, 2), 7);
        CHECKS.fault(x, "from t0 keep a, d", 2, 16, -1);
        CHECKS.fine(x, "from t0 keep a" + ",a".repeat(15), 4);
        CHECKS.fault(x, "from t0 keep a" + ",a".repeat(16), 7, 8, -1);
        CHECKS.fault(x, "from t0 keep a" + ",a".repeat(16) + ",d", 2, 47, -1);
        x.away(0, 0, true);
        CHECKS.fine(x, "from t0 keep a", 4);
        CHECKS.due("AWAY stays", x.kind(6, 0), 19);
    }

    private static void join() {
        ColumnHouse x = house();
        CHECKS.fine(x, "from t0 join t1 on a = a", 5);
        CHECKS.due("columns", x.size(6, 1), 5);
        CHECKS.cells(x, "a", 0, 5, 5, 5, 5, 9);
        CHECKS.cells(x, "their a", 3, 5, 5, 5, 5, 9);
        CHECKS.cells(x, "their b", 4, 2, 3, 2, 3, 1);
        CHECKS.fine(x, "from t0 join t1 on c = a", 0);
        CHECKS.fine(x, "from t0 join t0 on c = c", 6);
        CHECKS.cells(x, "NOTHING is like NOTHING", 0, 5, 7, 7, 5, 5, 9);
        CHECKS.cells(x, "of the other", 3, 5, 7, 5, 7, 5, 9);
        CHECKS.fine(x, "from t0 let real(a) keep d join t1 on a = a let missing(0.0 / a)", 5);
        x.table(3, 1);
        Checks.column(x, 3, 6, Checks.real(Double.NaN));
        CHECKS.fine(x, "from t3 join t3 on a = a", 0);
        x.table(4, 8);
        Checks.column(x, 4, 7);
        CHECKS.fault(x, "from t4 join t4 on a = a", 7, 8, -1);
        x.table(4, 6);
        Checks.column(x, 4, 7);
        x.table(5, 10);
        Checks.column(x, 5, 7);
        CHECKS.fine(x, "from t4 join t5 on a = a", 60);
    }

    private static void joinRefuses() {
        ColumnHouse x = house();
        CHECKS.fault(x, "from t0 join t2 on p = p", 3, 8, -1);
        CHECKS.fault(x, "from t0 join t1 on d = a", 2, 19, -1);
        CHECKS.fault(x, "from t0 join t1 on a = c", 2, 23, -1);
        CHECKS.fault(x, "from t0 join t1 on b = a", 4, 8, -1);
        String wide = "from t0" + " let 1".repeat(12);
        CHECKS.fault(x, wide + " join t1 on a = a", 7, wide.length() + 1, -1);
        CHECKS.fault(x, wide + " join t1 on b = a", 4, wide.length() + 1, -1);
        x.away(1, 1, true);
        CHECKS.fault(x, "from t0 join t1 on a = a", 1, 8, -1);
        CHECKS.fine(x, "from t0 where a = 7 join t1 on a = a", 0);
        CHECKS.due("what is made is not AWAY", x.kind(6, 4), 0);
        x.away(1, 0, true);
        CHECKS.fault(x, "from t0 where a = 7 join t1 on a = a", 1, 20, -1);
        CHECKS.fine(x, "from t0 where a = 6 join t1 on a = a", 0);
    }

    private static void group() {
        ColumnHouse x = house();
        CHECKS.fine(x, "from t0 group a : count, sum(a)", 3);
        CHECKS.cells(x, "a", 0, 5, 7, 9);
        CHECKS.cells(x, "count", 1, 2, 1, 1);
        CHECKS.cells(x, "sum", 2, 10, 7, 9);
        CHECKS.fine(x, "from t0 group : count", 1);
        CHECKS.cells(x, "one for all", 0, 4);
        CHECKS.fine(x, "from t0 where a = 0 group : count", 0);
        CHECKS.fine(x, "from t0 group c, b : count", 4);
        CHECKS.fine(x, "from t0 group c : last(a)", 3);
        CHECKS.cells(x, "both NOTHING", 1, 5, 5, 9);
        CHECKS.fine(x, "from t0 group b, a, b : count", 3);
        CHECKS.cells(x, "by two", 3, 2, 1, 1);
        x.table(3, 5);
        Checks.column(x, 3, 6, Checks.real(0.0), Checks.real(Double.NaN), Checks.real(-0.0),
                Checks.real(Double.NaN), Checks.real(1.0));
        x.column(3, 9);
        x.box(3, 1, 0, 2, Checks.real(Double.NaN));
        x.box(3, 1, 1, 2, Checks.real(Double.NaN));
        x.box(3, 1, 2, 2, Checks.real(3.0));
        x.box(3, 1, 3, 1, 3);
        CHECKS.fine(x, "from t3 group a : count", 3);
        CHECKS.cells(x, "NaN is NOTHING, 0 is like -0", 1, 2, 2, 1);
        CHECKS.cells(x, "the first of each", 0, 0, Checks.real(Double.NaN), Checks.real(1.0));
        CHECKS.fine(x, "from t3 group b : count", 4);
        CHECKS.cells(x, "a box of a NaN is like none", 1, 1, 1, 2, 1);
        CHECKS.fine(x, "from t3 let list(row % 2) group c : count", 2);
        CHECKS.cells(x, "lists", 1, 3, 2);
    }

    private static void groupRefuses() {
        ColumnHouse x = house();
        CHECKS.fault(x, "from t0 group a, d : count", 2, 17, -1);
        CHECKS.fault(x, "from t0 group a : count, sum(b)", 4, 25, -1);
        CHECKS.fault(x, "from t0 group a : sum(a / 0)", 6, 24, 0);
        String wide = "from t0 group a : count" + ",count".repeat(14);
        CHECKS.fine(x, wide, 3);
        CHECKS.fault(x, wide + ",count", 7, 8, -1);
        CHECKS.fault(x, wide + ",count,sum(b)", 4, wide.length() + 7, -1);
        x.away(0, 0, true);
        CHECKS.fault(x, "from t0 group a : sum(b)", 1, 8, -1);
        CHECKS.fault(x, "from t0 group a, d : sum(b)", 2, 17, -1);
        CHECKS.fine(x, "from t0 group b : count", 2);
        CHECKS.fine(x, "from t0 keep a, b group b : count first 0", 0);
        x.table(4, 0);
        x.column(4, 3);
        x.away(4, 0, true);
        CHECKS.fine(x, "from t4 group a : sum(a)", 0);
        CHECKS.due("what is made is not AWAY", x.kind(6, 0), 3);
    }

    private static void folds() {
        ColumnHouse x = new ColumnHouse();
        x.table(0, 3);
        Checks.column(x, 0, 0, 100, 100, -128);
        Checks.column(x, 0, 4, Long.MAX_VALUE, 1, 0);
        Checks.column(x, 0, 5, Checks.single(1e30f), Checks.single(-1e30f), Checks.single(0.1f));
        Checks.column(x, 0, 6, Checks.real(-0.0), Checks.real(0.0), Checks.real(-0.0));
        Checks.column(x, 0, 7, 0, 0, 1);
        x.column(0, 10);
        x.box(0, 5, 2, 3, Checks.text("end"));
        CHECKS.fine(x, "from t0 group:count,sum(a),sum(b),sum(c),sum(d),max(a),min(a),max(d),min(d),"
                + "max(b),any(e),last(f),last(e),min(c),any(a=1)", 1);
        int[] kinds = {3, 4, 4, 6, 6, 3, 3, 6, 6, 4, 7, 10, 7, 5, 7};
        long[] cells = {3, 72, Long.MIN_VALUE, Checks.real((double) 1e30f - 1e30f + 0.1f), 0, 100,
            -128, 0, Long.MIN_VALUE, Long.MAX_VALUE, 1, Checks.text("end"), 1,
            Checks.single(-1e30f), 0};
        for (int c = 0; c < kinds.length; c++) {
            CHECKS.due("kind of fold " + c, x.kind(6, c), kinds[c]);
            CHECKS.due("fold " + c, x.cell(6, c, 0), cells[c]);
        }
        x.put(0, 3, 1, Checks.real(Double.NaN));
        CHECKS.fine(x, "from t0 group : max(d), min(d), sum(d)", 1);
        for (int c = 0; c < 3; c++) {
            CHECKS.due("NaN of fold " + c, x.cell(6, c, 0), Checks.real(Double.NaN));
        }
        x.table(1, 2);
        Checks.column(x, 1, 6, Checks.real(-0.0), Checks.real(-0.0));
        CHECKS.fine(x, "from t1 group : sum(a)", 1);
        CHECKS.cells(x, "from 0 on", 0, 0);
        CHECKS.fine(x, "from t1 let list(3) group : last(with(b, 1, row))", 1);
        CHECKS.due("a list", x.number(6, 0, 0, 1), 1);
    }

    private static void foldsRefuse() {
        ColumnHouse x = house();
        for (String fold : new String[] {"sum(b)", "max(b)", "min(c)", "sum(c)", "any(a)",
            "max(list(1))", "any(c)"}) {
            CHECKS.fault(x, "from t0 group : " + fold, 4, 16, -1);
            CHECKS.fault(x, "from t5 let 1 let 1=1 let nil group : " + fold, 4, 38, -1);
        }
        x.away(0, 0, true);
        CHECKS.fault(x, "from t0 group : count, sum(a)", 1, 23, 0);
        CHECKS.fault(x, "from t0 group : last(a)", 1, 16, 0);
        CHECKS.fault(x, "from t0 group : any(a)", 4, 16, -1);
    }

    private static void sort() {
        ColumnHouse x = house();
        CHECKS.fine(x, "from t0 let row sort a", 4);
        CHECKS.cells(x, "upwards", 0, 5, 5, 7, 9);
        CHECKS.cells(x, "in order", 3, 0, 2, 1, 3);
        CHECKS.fine(x, "from t0 let row sort a down", 4);
        CHECKS.cells(x, "down", 3, 3, 1, 0, 2);
        CHECKS.fine(x, "from t0 let row sort b", 4);
        CHECKS.cells(x, "false ahead of true", 3, 1, 3, 0, 2);
        CHECKS.fine(x, "from t0 let row sort b down", 4);
        CHECKS.cells(x, "true ahead of false", 3, 0, 2, 1, 3);
        x.table(3, 6);
        Checks.column(x, 3, 5, Checks.single(Float.NaN), Checks.single(0f), Checks.single(-0f),
                Checks.single(Float.NEGATIVE_INFINITY), Checks.single(2f), Checks.single(-1f));
        CHECKS.fine(x, "from t3 let row sort a", 6);
        CHECKS.cells(x, "floating", 1, 3, 5, 1, 2, 4, 0);
        CHECKS.fine(x, "from t3 let row sort a down", 6);
        CHECKS.cells(x, "floating down", 1, 4, 1, 2, 5, 3, 0);
        x.table(4, 3);
        Checks.column(x, 4, 4, (1L << 53) + 1, 1L << 53, -1);
        CHECKS.fine(x, "from t4 sort a", 3);
        CHECKS.cells(x, "LONGs as they are", 0, -1, 1L << 53, (1L << 53) + 1);
    }

    private static void sortOfBoxes() {
        ColumnHouse x = new ColumnHouse();
        x.table(0, 9);
        x.column(0, 8);
        x.box(0, 0, 1, 3, Checks.text("ab"));
        x.box(0, 0, 2, 2, Checks.real(Double.NaN));
        x.box(0, 0, 3, 3, Checks.text("abc"));
        x.box(0, 0, 4, 1, 3);
        x.box(0, 0, 5, 2, Checks.real(2.5));
        x.box(0, 0, 6, 3, 0xff);
        x.box(0, 0, 7, 3, 0);
        x.box(0, 0, 8, 3, Checks.text("b"));
        CHECKS.fine(x, "from t0 let row sort a", 9);
        CHECKS.cells(x, "boxes", 1, 5, 4, 7, 1, 3, 8, 6, 2, 0);
        CHECKS.fine(x, "from t0 let row sort a down", 9);
        CHECKS.cells(x, "boxes down", 1, 6, 8, 3, 1, 7, 4, 5, 2, 0);
    }

    private static void sortRefuses() {
        ColumnHouse x = house();
        CHECKS.fault(x, "from t0 sort d", 2, 13, -1);
        CHECKS.fault(x, "from t0 let list(1) sort d down", 4, 20, -1);
        x.away(0, 0, true);
        CHECKS.fault(x, "from t0 sort a", 1, 8, -1);
        CHECKS.fault(x, "from t0 sort b", 1, 8, -1);
        int left = x.credit();
        Checks.ask(x, "from t0 sort a");
        CHECKS.due("no CREDIT taken for it", x.credit(), left - 24);
        Checks.ask(x, "from t0 sort b");
        CHECKS.due("CREDIT ahead of moving", x.credit(), left - 24 - 48);
        x.table(3, 1);
        x.column(3, 3);
        x.away(3, 0, true);
        CHECKS.fault(x, "from t3 sort a", 1, 8, -1);
        CHECKS.due("one row is moved, too", x.credit(), left - 24 - 48 - 3);
        x.table(3, 0);
        x.column(3, 3);
        x.away(3, 0, true);
        CHECKS.fine(x, "from t3 sort a", 0);
    }

    private static void first() {
        ColumnHouse x = house();
        CHECKS.fine(x, "from t0 first 2", 2);
        CHECKS.cells(x, "a", 0, 5, 7);
        CHECKS.fine(x, "from t0 first 999999999", 4);
        CHECKS.fine(x, "from t0 first 0", 0);
        x.away(0, 1, true);
        CHECKS.fault(x, "from t0 first 1", 1, 8, -1);
        CHECKS.fine(x, "from t0 first 0", 0);
        CHECKS.due("what is made is not AWAY", x.kind(6, 1), 7);
    }

    private static void into() {
        ColumnHouse x = house();
        x.away(0, 1, true);
        CHECKS.fine(x, "from t0 let a * 2 into t2 let 1", 4);
        CHECKS.due("rows", x.size(2, 0), 4);
        CHECKS.due("columns", x.size(2, 1), 4);
        CHECKS.due("AWAY stays", x.kind(2, 1), 23);
        CHECKS.due("cell", x.cell(2, 3, 3), 18);
        CHECKS.due("RESULT", x.size(6, 1), 5);
        x.put(2, 3, 3, 1);
        CHECKS.due("the RESULT is its own", x.cell(6, 3, 3), 18);
        CHECKS.fault(x, "from t1 keep a into t2 let a / 0", 6, 29, 0);
        CHECKS.due("what into changed stays", x.size(2, 1), 1);
        CHECKS.due("the RESULT stays", x.size(6, 1), 5);
        String wide = "from t1" + " let 1".repeat(6);
        CHECKS.fine(x, wide + " into t1", 3);
        CHECKS.due("eight columns", x.size(1, 1), 8);
        CHECKS.fault(x, "from t1 let 1 into t0", 7, 14, -1);
        CHECKS.due("nothing changed", x.size(0, 1), 3);
        x.table(3, 1);
        x.column(3, 11);
        x.put(3, 0, 0, 1);
        CHECKS.fine(x, "from t3 into t4", 1);
        x.item(4, 0, 0, 0, 8);
        CHECKS.due("a list of its own", x.number(3, 0, 0, 0), 0);
        CHECKS.due("a list of its own", x.number(6, 0, 0, 0), 0);
        CHECKS.due("changed", x.number(4, 0, 0, 0), 8);
    }

    private static void over() {
        ColumnHouse x = house();
        CHECKS.fine(x, "from t1 keep a over t0 at 1", 3);
        CHECKS.due("ahead of the place", x.cell(0, 0, 0), 5);
        CHECKS.due("at the place", x.cell(0, 0, 1), 9);
        CHECKS.due("the last one", x.cell(0, 0, 3), 5);
        CHECKS.fine(x, "from t1 first 0 keep a over t0 at 4", 0);
        CHECKS.fine(x, "from t0 keep a first 3 over t0 at 1", 3);
        CHECKS.due("over itself", x.cell(0, 0, 1), 5);
        CHECKS.due("over itself", x.cell(0, 0, 2), 9);
        x.table(3, 4);
        x.column(3, 9);
        x.box(3, 0, 1, 1, 1);
        CHECKS.fault(x, "from t0 keep c let a over t3 at 0", 5, 21, 0);
        CHECKS.fault(x, "from t0 keep c sort a over t3 at 0", 5, 22, 1);
        CHECKS.due("what was copied stays", x.cell(3, 0, 0), 4);
        CHECKS.due("it and those behind it are not", x.cell(3, 0, 1), 1);
    }

    private static void overRefuses() {
        ColumnHouse x = house();
        CHECKS.fault(x, "from t0 over t2 at 0", 3, 8, -1);
        CHECKS.fault(x, "from t0 over t1 at 0", 2, 8, -1);
        CHECKS.fault(x, "from t0 keep a, b over t1 at 0", 2, 18, -1);
        CHECKS.fault(x, "from t1 keep a, a over t0 at 0", 5, 18, -1);
        CHECKS.due("the first column was copied", x.cell(0, 0, 0), 9);
        CHECKS.fault(x, "from t1 keep a over t0 at 2", 2, 15, -1);
        CHECKS.fault(x, "from t1 keep a, a, a, a over t0 at 0", 5, 24, -1);
        CHECKS.fault(x, "from t1 let 1=1 keep a, c, a over t0 at 0", 5, 29, -1);
        CHECKS.fault(x, "from t1 first 0 keep a over t0 at 5", 2, 23, -1);
        x.away(0, 0, true);
        CHECKS.fault(x, "from t1 first 0 keep a over t0 at 5", 1, 23, -1);
        CHECKS.fault(x, "from t1 first 0 keep b over t0 at 5", 1, 23, -1);
        x.away(0, 0, false);
        x.away(1, 0, true);
        CHECKS.fault(x, "from t1 keep a over t0 at 0", 1, 15, -1);
    }

    private static void takes(ColumnHouse x, String query, int credit) {
        int left = x.credit();
        Checks.ask(x, query);
        CHECKS.due("CREDIT of " + query, left - x.credit(), credit);
    }

    private static void credit() {
        ColumnHouse x = house();
        takes(x, "from t1", 6);
        takes(x, "from t0", 24);
        takes(x, "from t0 keep a, a, c", 24);
        takes(x, "from t0 let a let b", 24);
        takes(x, "from t0 where b", 24 + 12);
        takes(x, "from t0 first 3", 24 + 18);
        takes(x, "from t0 first 0", 24);
        takes(x, "from t0 sort a", 24 + 24);
        takes(x, "from t0 into t3", 24 + 24);
        takes(x, "from t1 over t3 at 0", 6);
        takes(x, "from t0 join t1 on a = a", 24 + 5 * 8);
        takes(x, "from t0 group c : count, last(c), sum(a)", 24 + 3 * 10);
        takes(x, "from t0 group : count", 24 + 1);
        takes(x, "from t2", 0);
        takes(x, "from t0 where", 0);
        takes(x, "from t0 let a / 0", 24 + 8);
    }

    private static void lacks(String query, int left, int place) {
        ColumnHouse x = house();
        Checks.spendTo(x, left);
        CHECKS.fault(x, query, 8, place, -1);
        ColumnHouse y = house();
        Checks.spendTo(y, left + 1);
        CHECKS.holds(query + " with one more", Checks.ask(y, query) >= 0);
        CHECKS.due(query + " takes all", y.credit(), 0);
    }

    private static void withoutCredit() {
        lacks("from t1", 5, 0);
        lacks("from t0 where b", 35, 8);
        lacks("from t0 first 3", 41, 8);
        lacks("from t0 sort a down", 47, 8);
        lacks("from t0 into t3", 47, 8);
        lacks("from t0 join t1 on a = a", 63, 8);
        lacks("from t0 group c : count, last(c), sum(a)", 53, 8);
        ColumnHouse x = house();
        Checks.spendTo(x, 30);
        Checks.ask(x, "from t0 first 4");
        CHECKS.due("nothing is taken then", x.credit(), 6);
    }
}
