/** Boundary cases of PART 4 (COPY) and of promise 8, and of over, which copies likewise. */
public final class EdgesOfCopyTest {
    private static final Checks CHECKS = new Checks("EdgesOfCopyTest");
    private static final int LEAST = Integer.MIN_VALUE;
    private static final int MOST = Integer.MAX_VALUE;

    public static void main(String[] args) {
        noneAndAll();
        everyKind();
        intoItself();
        boxesIntoThemselves();
        beyond();
        away();
        otherKinds();
        boxesThatDoNotGo();
        listsThatDoNotGo();
        bothWaysUpToOne();
        listsOfTheirOwn();
        noneSuch();
        creditStays();
        CHECKS.end();
    }

    /** Table 0 has a column of WHOLEs 1 to n, table 1 one of -1 to -m. */
    private static ColumnHouse wholes(int n, int m) {
        ColumnHouse x = new ColumnHouse();
        x.table(0, n);
        x.table(1, m);
        x.column(0, 3);
        x.column(1, 3);
        for (int r = 0; r < n; r++) {
            x.put(0, 0, r, r + 1);
        }
        for (int r = 0; r < m; r++) {
            x.put(1, 0, r, -r - 1);
        }
        return x;
    }

    private static void cells(ColumnHouse x, int table, long... want) {
        for (int r = 0; r < want.length; r++) {
            CHECKS.due("cell(" + table + ", 0, " + r + ")", x.cell(table, 0, r), want[r]);
        }
        CHECKS.due("rows of table " + table, x.size(table, 0), want.length);
    }

    private static void sorts(ColumnHouse x, int table, int column, int... want) {
        for (int r = 0; r < want.length; r++) {
            CHECKS.due("sort(" + table + ", " + column + ", " + r + ")", x.sort(table, column, r), want[r]);
        }
    }

    private static void noneAndAll() {
        CHECKS.says("COPY of n elements of a column from i to place j of another table's: 1; less the FAULT.");
        ColumnHouse x = wholes(3, 4);
        CHECKS.due("none, from the first", x.copy(1, 0, 0, 0, 0, 0, 0), 1);
        CHECKS.due("none, from behind the last", x.copy(1, 0, 4, 0, 0, 0, 0), 1);
        CHECKS.due("none, to behind the last", x.copy(1, 0, 0, 0, 0, 3, 0), 1);
        CHECKS.due("none, both", x.copy(1, 0, 4, 0, 0, 3, 0), 1);
        cells(x, 0, 1, 2, 3);
        CHECKS.due("one, the last to the last", x.copy(1, 0, 3, 0, 0, 2, 1), 1);
        cells(x, 0, 1, 2, -4);
        CHECKS.due("one, the first to the first", x.copy(1, 0, 0, 0, 0, 0, 1), 1);
        cells(x, 0, -1, 2, -4);
        CHECKS.due("as many as there can be", x.copy(1, 0, 1, 0, 0, 0, 3), 1);
        cells(x, 0, -2, -3, -4);
        CHECKS.due("all of the shorter one", x.copy(0, 0, 0, 1, 0, 1, 3), 1);
        cells(x, 1, -1, -2, -3, -4);
        ColumnHouse y = wholes(60, 60);
        CHECKS.due("all sixty", y.copy(0, 0, 0, 1, 0, 0, 60), 1);
        for (int r = 0; r < 60; r++) {
            CHECKS.due("row " + r, y.cell(1, 0, r), r + 1);
        }
        ColumnHouse z = wholes(0, 0);
        CHECKS.due("none of none", z.copy(0, 0, 0, 1, 0, 0, 0), 1);
        CHECKS.due("one of none", z.copy(0, 0, 0, 1, 0, 0, 1), -2);
        CHECKS.due("none from behind none", z.copy(0, 0, 1, 1, 0, 0, 0), -2);
    }

    private static void everyKind() {
        CHECKS.says("COPY of n elements of a column from place i to place j of another one");
        for (int kind = 0; kind <= 11; kind++) {
            ColumnHouse x = new ColumnHouse();
            x.table(0, 2);
            x.table(5, 2);
            x.column(0, kind);
            x.column(5, kind);
            x.put(0, 0, 1, 1);
            x.box(0, 0, 1, kind == 10 ? 3 : 1, 1);
            x.put(5, 0, 1, 1);
            x.box(5, 0, 1, kind == 10 ? 3 : 1, 1);
            CHECKS.due("copy of kind " + kind, x.copy(0, 0, 1, 5, 0, 0, 1), 1);
            CHECKS.due("it came", x.cell(5, 0, 0), 1);
            CHECKS.due("its sort", x.sort(5, 0, 0), kind < 8 ? -1 : kind == 11 ? 4 : kind == 10 ? 3 : 1);
            CHECKS.due("0, or NOTHING, comes, too", x.copy(0, 0, 0, 5, 0, 0, 2), 1);
            CHECKS.due("cell", x.cell(5, 0, 0), 0);
            CHECKS.due("sort", x.sort(5, 0, 0), kind < 8 ? -1 : 0);
            CHECKS.due("the other", x.cell(5, 0, 1), 1);
            CHECKS.due("the source stays", x.cell(0, 0, 1), 1);
        }
    }

    private static void intoItself() {
        CHECKS.says("(or itself, as if by way of a third one)");
        ColumnHouse x = wholes(5, 1);
        CHECKS.due("by one upwards", x.copy(0, 0, 0, 0, 0, 1, 4), 1);
        cells(x, 0, 1, 1, 2, 3, 4);
        x = wholes(5, 1);
        CHECKS.due("by one downwards", x.copy(0, 0, 1, 0, 0, 0, 4), 1);
        cells(x, 0, 2, 3, 4, 5, 5);
        x = wholes(5, 1);
        CHECKS.due("by two upwards", x.copy(0, 0, 0, 0, 0, 2, 3), 1);
        cells(x, 0, 1, 2, 1, 2, 3);
        x = wholes(5, 1);
        CHECKS.due("by two downwards", x.copy(0, 0, 2, 0, 0, 0, 3), 1);
        cells(x, 0, 3, 4, 5, 4, 5);
        x = wholes(5, 1);
        CHECKS.due("to where it is", x.copy(0, 0, 0, 0, 0, 0, 5), 1);
        cells(x, 0, 1, 2, 3, 4, 5);
        CHECKS.due("beyond by one", x.copy(0, 0, 0, 0, 0, 1, 5), -2);
        CHECKS.due("beyond by one, from 1", x.copy(0, 0, 1, 0, 0, 0, 5), -2);
        cells(x, 0, 1, 2, 3, 4, 5);
        x = wholes(60, 1);
        CHECKS.due("59 upwards", x.copy(0, 0, 0, 0, 0, 1, 59), 1);
        CHECKS.due("the last", x.cell(0, 0, 59), 59);
        CHECKS.due("59 downwards", x.copy(0, 0, 1, 0, 0, 0, 59), 1);
        CHECKS.due("the first", x.cell(0, 0, 0), 1);
        CHECKS.due("the one ahead of the last", x.cell(0, 0, 58), 59);
        x = wholes(3, 1);
        CHECKS.fine(x, "from t0 first 2 over t0 at 1", 2);
        cells(x, 0, 1, 1, 2);
        x.column(0, 3);
        CHECKS.due("another column of the table", x.copy(0, 0, 0, 0, 1, 1, 2), 1);
        CHECKS.due("came", x.cell(0, 1, 2), 1);
        cells(x, 0, 1, 1, 2);
    }

    private static void boxesIntoThemselves() {
        CHECKS.says("(or itself, as if by way of a third one)");
        ColumnHouse x = new ColumnHouse();
        x.table(0, 4);
        Checks.boxes(x, 0, 8, 1, 2.0, "c", null);
        Checks.lists(x, 0, new int[] {1}, null, new int[] {3, 3}, new int[0]);
        CHECKS.due("boxes upwards", x.copy(0, 0, 0, 0, 0, 1, 3), 1);
        sorts(x, 0, 0, 1, 1, 2, 3);
        CHECKS.due("boxes downwards", x.copy(0, 0, 2, 0, 0, 0, 2), 1);
        sorts(x, 0, 0, 2, 3, 2, 3);
        CHECKS.due("lists upwards", x.copy(0, 1, 0, 0, 1, 1, 3), 1);
        sorts(x, 0, 1, 4, 4, 0, 4);
        CHECKS.due("the last list", x.cell(0, 1, 3), 2);
        CHECKS.due("lists downwards", x.copy(0, 1, 1, 0, 1, 0, 3), 1);
        sorts(x, 0, 1, 4, 0, 4, 4);
    }

    private static void beyond() {
        CHECKS.says("2 when i, j or n is below 0, or i and n, j and n together are more than there are;");
        int[][] refused = {{-1, 0, 0}, {0, -1, 0}, {0, 0, -1}, {-1, 0, 1}, {0, -1, 1}, {5, 0, 0}, {0, 4, 0}, {4, 0, 1},
            {0, 3, 1}, {2, 0, 3}, {0, 1, 3}, {0, 0, 4}, {LEAST, 0, 0}, {0, LEAST, 0}, {0, 0, LEAST}, {MOST, 0, 0},
            {0, MOST, 0}, {0, 0, MOST}, {1, 0, MOST}, {0, 1, MOST}, {MOST, 0, MOST}, {0, MOST, MOST}, {MOST, MOST, 1},
            {MOST, MOST, 2}, {4, 3, -1}, {LEAST, LEAST, LEAST}, {4, 3, MOST}, {-1, -1, 2}, {1, 1, -1}};
        for (int[] c : refused) {
            ColumnHouse x = wholes(4, 3);
            String what = "from " + c[0] + " to " + c[1] + ", " + c[2];
            CHECKS.due(what, x.copy(0, 0, c[0], 1, 0, c[1], c[2]), -2);
            cells(x, 1, -1, -2, -3);
        }
        ColumnHouse x = wholes(4, 3);
        int[][] done = {{4, 3, 0}, {3, 2, 1}, {1, 0, 3}, {0, 0, 3}, {0, 3, 0}, {4, 0, 0}};
        for (int[] c : done) {
            CHECKS.due("from " + c[0] + " to " + c[1] + ", " + c[2], x.copy(0, 0, c[0], 1, 0, c[1], c[2]), 1);
        }
    }

    private static void away() {
        CHECKS.says("1 when one of both is AWAY;");
        ColumnHouse x = wholes(2, 2);
        x.column(1, 4);
        x.away(0, 0, true);
        CHECKS.due("from AWAY", x.copy(0, 0, 0, 1, 0, 0, 1), -1);
        CHECKS.due("to AWAY", x.copy(1, 0, 0, 0, 0, 0, 1), -1);
        CHECKS.due("none from AWAY", x.copy(0, 0, 0, 1, 0, 0, 0), -1);
        CHECKS.due("AWAY into itself", x.copy(0, 0, 0, 0, 0, 1, 1), -1);
        CHECKS.due("ahead of another kind", x.copy(0, 0, 0, 1, 1, 0, 1), -1);
        CHECKS.due("ahead of another kind", x.copy(1, 1, 0, 0, 0, 0, 1), -1);
        CHECKS.due("ahead of a place beyond", x.copy(0, 0, -1, 1, 0, 9, 9), -1);
        x.away(0, 0, false);
        CHECKS.due("it is back", x.copy(0, 0, 0, 1, 0, 0, 1), 1);
        ColumnHouse y = wholes(0, 0);
        y.away(1, 0, true);
        CHECKS.due("without rows", y.copy(0, 0, 0, 1, 0, 0, 0), -1);
        CHECKS.fault(y, "from t0 over t1 at 0", 1, 8, -1);
    }

    private static void otherKinds() {
        CHECKS.says("5 when their kinds are different, but both 8 to 11;");
        for (int from = 0; from <= 11; from++) {
            ColumnHouse x = new ColumnHouse();
            x.table(0, 1);
            x.column(0, from);
            for (int to = 0; to <= 11; to++) {
                x.table(1, 1);
                x.column(1, to);
                boolean goes = from == to || from >= 8 && to >= 8;
                String what = "from kind " + from + " to kind " + to;
                CHECKS.due(what, x.copy(0, 0, 0, 1, 0, 0, 1), goes ? 1 : -5);
                CHECKS.due(what + ", none", x.copy(0, 0, 0, 1, 0, 0, 0), goes ? 1 : -5);
                CHECKS.due(what + ", beyond", x.copy(0, 0, 0, 1, 0, 0, 2), goes ? -2 : -5);
            }
        }
        CHECKS.says("its FAULT ends the query (of 5 by an element: its row)");
        ColumnHouse x = wholes(2, 2);
        CHECKS.fault(x, "from t0 let long(a) keep b over t1 at 0", 5, 27, -1);
    }

    private static void boxesThatDoNotGo() {
        CHECKS.says("5 at a box (or list) that doesn't go there (a list into 8 to 10, a box into 11, a text's into 9, "
                + "a number's into 10)");
        Object[] each = {null, 7, 0.5, "t", "", Double.NaN};
        for (int to = 8; to <= 11; to++) {
            for (Object box : each) {
                ColumnHouse x = new ColumnHouse();
                x.table(0, 1);
                Checks.boxes(x, 0, 8, box);
                x.column(0, to);
                boolean text = box instanceof String;
                boolean goes = box == null || to == 8 || to == 9 && !text || to == 10 && text;
                CHECKS.due(box + " into kind " + to, x.copy(0, 0, 0, 0, 1, 0, 1), goes ? 1 : -5);
                CHECKS.due("its sort there", x.sort(0, 1, 0), goes ? x.sort(0, 0, 0) : 0);
                CHECKS.due("its cell there", x.cell(0, 1, 0), goes ? x.cell(0, 0, 0) : 0);
            }
        }
        CHECKS.says("else one by one from the first on:");
        CHECKS.says("those ahead of it are copied, it and those behind it not.");
        ColumnHouse x = new ColumnHouse();
        x.table(0, 5);
        x.table(1, 6);
        Checks.boxes(x, 0, 8, 1, null, 2.5, "t", 4);
        Checks.boxes(x, 1, 9, 11, 12, 13, 14, 15, 16);
        CHECKS.due("up to the text", x.copy(0, 0, 0, 1, 0, 1, 5), -5);
        cells(x, 1, 11, 1, 0, Checks.real(2.5), 15, 16);
        sorts(x, 1, 0, 1, 1, 0, 2, 1, 1);
        CHECKS.due("the text alone", x.copy(0, 0, 3, 1, 0, 0, 1), -5);
        CHECKS.due("the text first", x.copy(0, 0, 3, 1, 0, 0, 2), -5);
        cells(x, 1, 11, 1, 0, Checks.real(2.5), 15, 16);
        CHECKS.due("the text last", x.copy(0, 0, 2, 1, 0, 4, 2), -5);
        cells(x, 1, 11, 1, 0, Checks.real(2.5), Checks.real(2.5), 16);
        CHECKS.due("up to just ahead of it", x.copy(0, 0, 0, 1, 0, 3, 3), 1);
        cells(x, 1, 11, 1, 0, 1, 0, Checks.real(2.5));
        CHECKS.due("from just behind it", x.copy(0, 0, 4, 1, 0, 0, 1), 1);
        cells(x, 1, 4, 1, 0, 1, 0, Checks.real(2.5));
        CHECKS.due("beyond is ahead of what doesn't go", x.copy(0, 0, 3, 1, 0, 5, 2), -2);
        ColumnHouse y = new ColumnHouse();
        y.table(0, 3);
        Checks.boxes(y, 0, 8, "a", "b", 3);
        y.column(0, 10);
        CHECKS.due("up to the number", y.copy(0, 0, 0, 0, 1, 0, 3), -5);
        sorts(y, 0, 1, 3, 3, 0);
        CHECKS.due("all texts", y.copy(0, 0, 0, 0, 1, 1, 2), 1);
        sorts(y, 0, 1, 3, 3, 3);
    }

    private static void listsThatDoNotGo() {
        CHECKS.says("(a list into 8 to 10, a box into 11,");
        for (int to = 8; to <= 10; to++) {
            ColumnHouse x = new ColumnHouse();
            x.table(0, 3);
            Checks.lists(x, 0, null, new int[0], null);
            Checks.boxes(x, 0, to, to == 10 ? "z" : 5, null, to == 10 ? "z" : 5);
            CHECKS.due("a list into kind " + to, x.copy(0, 0, 0, 0, 1, 0, 3), -5);
            sorts(x, 0, 1, 0, 0, to == 10 ? 3 : 1);
            CHECKS.due("NOTHING", x.copy(0, 0, 2, 0, 1, 2, 1), 1);
            sorts(x, 0, 1, 0, 0, 0);
            CHECKS.due("its cell", x.cell(0, 1, 2), 0);
        }
        for (int from = 8; from <= 10; from++) {
            ColumnHouse x = new ColumnHouse();
            x.table(0, 3);
            Checks.boxes(x, 0, from, null, from == 10 ? "z" : 5, null);
            Checks.lists(x, 0, new int[1], new int[2], new int[3]);
            CHECKS.due("a box of kind " + from + " into LISTS", x.copy(0, 0, 0, 0, 1, 0, 3), -5);
            sorts(x, 0, 1, 0, 4, 4);
            CHECKS.due("a list stays", x.cell(0, 1, 1), 2);
            CHECKS.due("NOTHING", x.copy(0, 0, 2, 0, 1, 2, 1), 1);
            sorts(x, 0, 1, 0, 4, 0);
        }
        ColumnHouse x = new ColumnHouse();
        x.table(0, 2);
        x.table(1, 2);
        Checks.boxes(x, 0, 8, null, "t");
        Checks.lists(x, 1, new int[1], new int[1]);
        CHECKS.says("its FAULT ends the query (of 5 by an element: its row); what was copied stays.");
        CHECKS.fault(x, "from t0 over t1 at 0", 5, 8, 1);
        sorts(x, 1, 0, 0, 4);
        CHECKS.fault(x, "from t0 sort a over t1 at 0", 5, 15, 0);
    }

    private static void bothWaysUpToOne() {
        CHECKS.says("those ahead of it are copied, it and those behind it not.");
        ColumnHouse x = new ColumnHouse();
        x.table(0, 4);
        x.table(1, 4);
        Checks.boxes(x, 0, 8, 1, 2, "t", 4);
        Checks.boxes(x, 1, 9, 11, 12, 13, 14);
        CHECKS.due("to a higher place", x.copy(0, 0, 0, 1, 0, 1, 3), -5);
        cells(x, 1, 11, 1, 2, 14);
        CHECKS.due("to a lower place", x.copy(0, 0, 1, 1, 0, 0, 3), -5);
        cells(x, 1, 2, 1, 2, 14);
        CHECKS.fault(x, "from t0 over t1 at 0", 5, 8, 2);
        cells(x, 1, 1, 2, 2, 14);
        CHECKS.fault(x, "from t0 first 3 over t1 at 1", 5, 16, 2);
        cells(x, 1, 1, 1, 2, 14);
    }

    private static void listsOfTheirOwn() {
        CHECKS.says("(A list that lies in several places is changed in one of them alone.)");
        ColumnHouse x = new ColumnHouse();
        x.table(0, 3);
        x.table(1, 3);
        Checks.lists(x, 0, new int[] {1, 2}, null, null);
        x.column(1, 11);
        CHECKS.due("in its column", x.copy(0, 0, 0, 0, 0, 1, 1), 1);
        CHECKS.due("in another table", x.copy(0, 0, 0, 1, 0, 0, 1), 1);
        CHECKS.fine(x, "from t0 into t2 over t1 at 0", 3);
        CHECKS.due("a change", x.item(0, 0, 0, 0, 9), 1);
        CHECKS.due("there", x.number(0, 0, 0, 0), 9);
        CHECKS.due("not in its column", x.number(0, 0, 1, 0), 1);
        CHECKS.due("not in another table", x.number(1, 0, 0, 0), 1);
        CHECKS.due("not by into", x.number(2, 0, 0, 0), 1);
        CHECKS.due("not in the RESULT", x.number(6, 0, 0, 0), 1);
        CHECKS.due("a change", x.item(2, 0, 1, 1, 8), 1);
        CHECKS.due("not in its column", x.number(2, 0, 0, 1), 2);
        CHECKS.due("not where it came from", x.number(0, 0, 1, 1), 2);
        CHECKS.due("not by over", x.number(1, 0, 1, 1), 2);
        CHECKS.due("not in the RESULT", x.number(6, 0, 1, 1), 2);
        CHECKS.fine(x, "from t0 let prior(a) let if(1 = 1, a, a) let safe(a, a) into t3", 3);
        x.item(3, 0, 0, 0, 77);
        for (int c = 1; c <= 3; c++) {
            CHECKS.due("not in column " + c, x.number(3, c, 0, 0), 9);
        }
        CHECKS.fine(x, "from t0 join t0 on a = a into t4", 3);
        x.item(4, 0, 0, 0, 66);
        CHECKS.due("not in the other column of the pair", x.number(4, 1, 0, 0), 9);
        CHECKS.due("not in the table", x.number(0, 0, 0, 0), 9);
    }

    private static void noneSuch() {
        CHECKS.says("NONE: no such table, column (either).");
        ColumnHouse x = wholes(2, 2);
        Checks.ask(x, "from t0");
        for (int t : new int[] {-1, 2, 6, 7, LEAST, MOST}) {
            CHECKS.due("from table " + t, x.copy(t, 0, 0, 1, 0, 0, 1), -1);
            CHECKS.due("to table " + t, x.copy(0, 0, 0, t, 0, 0, 1), -1);
        }
        for (int c : new int[] {-1, 1, LEAST, MOST}) {
            CHECKS.due("from column " + c, x.copy(0, c, 0, 1, 0, 0, 1), -1);
            CHECKS.due("to column " + c, x.copy(0, 0, 0, 1, c, 0, 1), -1);
        }
        CHECKS.due("ahead of a place beyond", x.copy(0, 1, -1, 1, 0, 0, 1), -1);
        CHECKS.due("ahead of a place beyond", x.copy(0, 0, -1, 1, 1, 0, 1), -1);
        x.away(0, 0, true);
        CHECKS.due("NONE and 1 are alike", x.copy(0, 0, 0, 1, 1, 0, 1), -1);
        cells(x, 0, 1, 2);
        cells(x, 1, -1, -2);
    }

    private static void creditStays() {
        CHECKS.says("COPY of n elements of a column from i to place j of another table's: 1; less the FAULT.");
        ColumnHouse x = new ColumnHouse();
        x.table(0, 2);
        Checks.lists(x, 0, new int[20], null);
        Checks.spendTo(x, 0);
        CHECKS.due("it takes no CREDIT", x.copy(0, 0, 0, 0, 0, 1, 1), 1);
        CHECKS.due("none is left", x.credit(), 0);
        CHECKS.due("a list came", x.cell(0, 0, 1), 20);
    }
}
