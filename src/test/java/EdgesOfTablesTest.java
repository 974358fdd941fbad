/** Boundary cases of PART 1 and of promises 1, 2, 3, 7, 13, 14 and 18, each beside its sentence. */
public final class EdgesOfTablesTest {
    private static final Checks CHECKS = new Checks("EdgesOfTablesTest");
    private static final int LEAST = Integer.MIN_VALUE;
    private static final int MOST = Integer.MAX_VALUE;

    public static void main(String[] args) {
        newObject();
        tablesThatThereAre();
        rowsThatCanBe();
        aNewTableIsWithoutColumns();
        columnsThatThereAre();
        kindsThatThereAre();
        kindsByTheirNumbers();
        asManyElementsAsRows();
        elementsOfANewColumn();
        priceOfAColumn();
        orderOfRefusals();
        awayAndBack();
        sizes();
        kinds();
        creditLeft();
        fiveHundredAndTwelveCalls();
        CHECKS.end();
    }

    private static void newObject() {
        CHECKS.says("Six tables without rows and columns; a RESULT likewise; a CREDIT of 400,000; an empty tape.");
        ColumnHouse x = new ColumnHouse();
        for (int t = 0; t <= 6; t++) {
            CHECKS.due("rows of table " + t, x.size(t, 0), 0);
            CHECKS.due("columns of table " + t, x.size(t, 1), 0);
            CHECKS.due("kind(" + t + ", 0)", x.kind(t, 0), -1);
        }
        CHECKS.due("there is no table 7", x.size(7, 0), -1);
        CHECKS.due("credit()", x.credit(), 400_000);
        CHECKS.due("one byte of an empty tape", x.ask(1), -10);
        CHECKS.due("no byte of an empty tape", x.ask(0), -9);
        CHECKS.due("twenty come on an empty tape", x.feed(0, 0, 0, 0, 0), 20);
        ColumnHouse y = new ColumnHouse();
        CHECKS.fine(y, "from t5", 0);
        CHECKS.due("the RESULT is without columns", y.size(6, 1), 0);
        CHECKS.says("The constants: `NONE = -1`: There is none.");
        CHECKS.due("NONE", ColumnHouse.NONE, -1);
    }

    private static void tablesThatThereAre() {
        CHECKS.says("NONE: no such table (0 to 5), rows that can't be.");
        ColumnHouse x = new ColumnHouse();
        for (int t : new int[] {-1, 6, 7, LEAST, MOST}) {
            CHECKS.due("table(" + t + ", 1)", x.table(t, 1), -1);
            CHECKS.due("table(" + t + ", 61)", x.table(t, 61), -1);
        }
        for (int t = 0; t <= 5; t++) {
            CHECKS.due("table(" + t + ", 1)", x.table(t, 1 + t), 1);
        }
        for (int t = 0; t <= 5; t++) {
            CHECKS.due("each has rows of its own", x.size(t, 0), 1 + t);
        }
        CHECKS.due("the RESULT has none", x.size(6, 0), 0);
    }

    private static void rowsThatCanBe() {
        CHECKS.says("have ROWS (-60 to 60, told when the table is made)");
        ColumnHouse x = new ColumnHouse();
        for (int rows : new int[] {-60, -59, -1, 0, 1, 59, 60}) {
            CHECKS.due("table(2, " + rows + ")", x.table(2, rows), 1);
            CHECKS.due("its rows", x.size(2, 0), rows);
        }
        for (int rows : new int[] {-61, 61, -62, 62, LEAST, MOST}) {
            CHECKS.due("table(2, " + rows + ")", x.table(2, rows), -1);
            CHECKS.due("what is refused changes nothing", x.size(2, 0), 60);
        }
        x.column(2, 3);
        CHECKS.due("the last element of sixty", x.put(2, 0, 59, 7), 1);
        CHECKS.due("the one behind it", x.put(2, 0, 60, 7), -2);
        CHECKS.due("a refused table keeps its columns", x.table(2, 61), -1);
        CHECKS.due("as they were", x.cell(2, 0, 59), 7);
    }

    private static void aNewTableIsWithoutColumns() {
        CHECKS.says("A table becomes a new one of so many ROWS, without columns: 1.");
        ColumnHouse x = new ColumnHouse();
        x.table(0, 2);
        x.table(1, 2);
        Checks.column(x, 0, 3, 5, 6);
        Checks.column(x, 1, 3, 7, 8);
        CHECKS.due("of the same ROWS", x.table(0, 2), 1);
        CHECKS.due("no columns", x.size(0, 1), 0);
        CHECKS.due("no kind", x.kind(0, 0), -1);
        CHECKS.due("no cell", x.cell(0, 0, 1), 0);
        CHECKS.due("the other table stays", x.cell(1, 0, 1), 8);
        CHECKS.due("the next column is the first", x.column(0, 3), 0);
        CHECKS.due("and new", x.cell(0, 0, 1), 0);
    }

    private static void columnsThatThereAre() {
        CHECKS.says("at most 8 COLUMNS (0 to 7)");
        ColumnHouse x = new ColumnHouse();
        x.table(4, 1);
        for (int c = 0; c < 8; c++) {
            CHECKS.due("ahead of it there is none", x.put(4, c, 0, 1), -1);
            CHECKS.due("column " + c, x.column(4, 3), c);
            CHECKS.due("now there is one", x.put(4, c, 0, 10 + c), 1);
        }
        CHECKS.due("a ninth", x.column(4, 3), -7);
        CHECKS.due("eight stay", x.size(4, 1), 8);
        CHECKS.due("the last one", x.cell(4, 7, 0), 17);
        for (int c : new int[] {-1, 8, LEAST, MOST}) {
            CHECKS.due("put in column " + c, x.put(4, c, 0, 1), -1);
            CHECKS.due("away of column " + c, x.away(4, c, true), -1);
            CHECKS.due("kind of column " + c, x.kind(4, c), -1);
        }
        for (int t : new int[] {-1, 6, LEAST, MOST}) {
            CHECKS.due("column(" + t + ", 3)", x.column(t, 3), -1);
        }
    }

    private static void kindsThatThereAre() {
        CHECKS.says("NONE: no such table, kind;");
        ColumnHouse x = new ColumnHouse();
        x.table(0, 1);
        for (int kind : new int[] {-1, 12, 16, LEAST, MOST}) {
            CHECKS.due("column(0, " + kind + ")", x.column(0, kind), -1);
        }
        CHECKS.due("none came", x.size(0, 1), 0);
        CHECKS.due("none was paid for", x.credit(), 400_000);
        for (int kind = 0; kind <= 11; kind++) {
            x.table(0, 1);
            CHECKS.due("column(0, " + kind + ")", x.column(0, kind), 0);
            CHECKS.due("its kind", x.kind(0, 0), kind);
        }
    }

    private static void kindsByTheirNumbers() {
        CHECKS.says("5 SINGLE, 6 REAL (floating numbers of 32 and 64 bits as IEEE 754 has them, a NaN being NOTHING); "
                + "7 FLAG; 8 BOXES, 9 NUMBERS, 10 TEXTS, whose elements are boxes:");
        ColumnHouse x = new ColumnHouse();
        x.table(0, 1);
        Checks.column(x, 0, 0, -2);
        String[] made = {"tiny(a)", "sign(a)", "small(a)", "whole(a)", "long(a)", "single(a)", "real(a)", "a = a",
            "nil", "box(a)", "'-2'", "list(0)"};
        long[] cells = {-2, 65534, -2, -2, -2, Checks.single(-2), Checks.real(-2), 1, 0, -2, Checks.text("-2"), 0};
        int[] sorts = {-1, -1, -1, -1, -1, -1, -1, -1, 0, 1, 3, 4};
        for (int kind = 0; kind < made.length; kind++) {
            CHECKS.gives(x, "from t0 let " + made[kind] + " into t1", kind, cells[kind]);
            CHECKS.due(made[kind] + ": sort", x.sort(6, 1, 0), sorts[kind]);
            x.table(2, 1);
            x.column(2, kind);
            CHECKS.due("the column has the kind of what is made", x.copy(1, 1, 0, 2, 0, 0, 1), 1);
            CHECKS.due(made[kind] + ": cell", x.cell(2, 0, 0), cells[kind]);
        }
        CHECKS.gives(x, "from t0 let long(1.0) let single(0.1) let bits(c)", 3, Float.floatToIntBits(0.1f));
        CHECKS.gives(x, "from t0 let bits(0.1)", 4, Double.doubleToLongBits(0.1));
    }

    private static void asManyElementsAsRows() {
        CHECKS.says("TABLES 0 to 5 have ROWS (-60 to 60, told when the table is made) and at most 8 COLUMNS (0 to 7), "
                + "each of as many ELEMENTS of one KIND:");
        for (int kind = 0; kind <= 11; kind++) {
            ColumnHouse x = new ColumnHouse();
            boolean boxed = kind >= 8 && kind <= 10;
            for (int rows : new int[] {0, 1, 2, 59, 60}) {
                x.table(5, rows);
                x.column(5, kind);
                for (int row : new int[] {-1, 0, 1, 2, 58, 59, 60, 61}) {
                    int due = row >= 0 && row < rows ? 1 : -2;
                    int got = boxed ? x.box(5, 0, row, 0, 0) : x.put(5, 0, row, 1);
                    CHECKS.due("kind " + kind + ", row " + row + " of " + rows, got, due);
                    CHECKS.due("its cell", x.cell(5, 0, row), due == 1 && !boxed ? 1 : 0);
                }
            }
        }
    }

    private static void elementsOfANewColumn() {
        CHECKS.says("A column more, of a kind: its number; all its elements are 0 (FLAGS false, boxes and LISTS "
                + "NOTHING).");
        for (int kind = 0; kind <= 11; kind++) {
            ColumnHouse x = new ColumnHouse();
            x.table(0, 60);
            x.column(0, kind);
            for (int row : new int[] {0, 1, 59}) {
                CHECKS.due("cell of kind " + kind, x.cell(0, 0, row), 0);
                CHECKS.due("sort of kind " + kind, x.sort(0, 0, row), kind >= 8 ? 0 : -1);
            }
            CHECKS.due("sort behind the last of kind " + kind, x.sort(0, 0, 60), -1);
            CHECKS.gives(x, "from t0 first 1 let missing(a)", 7, kind >= 8 ? 1 : 0);
        }
    }

    private static void priceOfAColumn() {
        CHECKS.says("Takes CREDIT for each of the ROWS (four of kinds 8 to 11).");
        for (int kind = 0; kind <= 11; kind++) {
            int each = kind >= 8 ? 4 : 1;
            for (int rows : new int[] {0, 1, 60}) {
                ColumnHouse x = new ColumnHouse();
                x.table(0, rows);
                x.column(0, kind);
                CHECKS.due(rows + " rows of kind " + kind, x.credit(), 400_000 - rows * each);
            }
            ColumnHouse enough = new ColumnHouse();
            Checks.spendTo(enough, 10 * each);
            enough.table(0, 10);
            CHECKS.due("just enough for kind " + kind, enough.column(0, kind), 0);
            CHECKS.due("all is taken", enough.credit(), 0);
            enough.table(0, 0);
            CHECKS.due("no rows take none", enough.column(0, kind), 0);
            ColumnHouse lacking = new ColumnHouse();
            Checks.spendTo(lacking, 10 * each - 1);
            lacking.table(0, 10);
            CHECKS.due("one too little for kind " + kind, lacking.column(0, kind), -8);
            CHECKS.due("nothing is taken", lacking.credit(), 10 * each - 1);
            CHECKS.due("no column came", lacking.size(0, 1), 0);
        }
    }

    private static void orderOfRefusals() {
        CHECKS.says("less FAULT 7 (8 columns), 3, 8: -7, -3, -8, in this order.");
        ColumnHouse x = new ColumnHouse();
        Checks.spendTo(x, 3);
        x.table(0, -1);
        CHECKS.due("3 ahead of 8", x.column(0, 8), -3);
        x.table(0, -60);
        CHECKS.due("3 of the least ROWS", x.column(0, 0), -3);
        CHECKS.due("no table, no column", x.column(6, 8), -1);
        CHECKS.due("no such kind ahead of 3", x.column(0, 12), -1);
        x.table(0, 1);
        CHECKS.due("8", x.column(0, 8), -8);
        for (int c = 0; c < 3; c++) {
            CHECKS.due("one for a row", x.column(0, 0), c);
        }
        CHECKS.due("8 without any", x.column(0, 0), -8);
        x.table(0, 0);
        for (int c = 0; c < 8; c++) {
            CHECKS.due("a column without rows", x.column(0, 8), c);
        }
        CHECKS.due("7 without CREDIT", x.column(0, 8), -7);
        CHECKS.due("no such kind ahead of 7", x.column(0, -1), -1);
        ColumnHouse y = new ColumnHouse();
        Checks.spendTo(y, 8);
        y.table(0, 1);
        for (int c = 0; c < 8; c++) {
            y.column(0, 7);
        }
        CHECKS.due("7 ahead of 8", y.column(0, 7), -7);
    }

    private static void awayAndBack() {
        CHECKS.says("A column is AWAY from now on, or comes back as it was: 1; 0 when it was so. NONE: no such one.");
        for (int kind = 0; kind <= 11; kind++) {
            ColumnHouse x = new ColumnHouse();
            x.table(5, 1);
            x.column(5, kind);
            x.put(5, 0, 0, 1);
            x.box(5, 0, 0, kind == 10 ? 3 : 1, 1);
            long cell = x.cell(5, 0, 0);
            CHECKS.due("cell of kind " + kind, cell, 1);
            CHECKS.due("it is there", x.away(5, 0, false), 0);
            CHECKS.due("it goes", x.away(5, 0, true), 1);
            CHECKS.due("it is AWAY", x.away(5, 0, true), 0);
            CHECKS.due("16 more", x.kind(5, 0), kind + 16);
            CHECKS.due("it lies there", x.cell(5, 0, 0), cell);
            CHECKS.due("it comes back", x.away(5, 0, false), 1);
            CHECKS.due("as it was", x.cell(5, 0, 0), cell);
            CHECKS.due("its kind", x.kind(5, 0), kind);
        }
        ColumnHouse y = new ColumnHouse();
        y.table(0, 0);
        CHECKS.due("no column", y.away(0, 0, true), -1);
        y.column(0, 3);
        CHECKS.due("a column without rows", y.away(0, 0, true), 1);
        CHECKS.due("the next one", y.away(0, 1, true), -1);
        CHECKS.due("the one ahead", y.away(0, -1, true), -1);
        Checks.ask(y, "from t0");
        CHECKS.due("the RESULT has it", y.kind(6, 0), 19);
        for (int t : new int[] {-1, 6, 7, LEAST, MOST}) {
            CHECKS.due("no table " + t, y.away(t, 0, false), -1);
        }
        CHECKS.due("a new column of a table with one that is AWAY", y.column(0, 3), 1);
        CHECKS.due("is there", y.kind(0, 1), 3);
        CHECKS.says("A column may be AWAY: its elements can't be had then.");
        y.table(1, 1);
        y.column(1, 3);
        y.away(1, 0, true);
        CHECKS.due("put", y.put(1, 0, 0, 1), -1);
        CHECKS.fault(y, "from t1 let a + 1", 1, 14, 0);
    }

    private static void sizes() {
        CHECKS.says("Of a table (6: the RESULT): 0 its ROWS, 1 its columns. NONE for others.");
        ColumnHouse x = new ColumnHouse();
        x.table(5, -60);
        x.table(0, 3);
        x.column(0, 3);
        Checks.ask(x, "from t0 let 1");
        CHECKS.due("rows below 0", x.size(5, 0), -60);
        CHECKS.due("no columns", x.size(5, 1), 0);
        CHECKS.due("rows of the RESULT", x.size(6, 0), 3);
        CHECKS.due("columns of the RESULT", x.size(6, 1), 2);
        for (int what : new int[] {-1, 2, LEAST, MOST}) {
            CHECKS.due("size(0, " + what + ")", x.size(0, what), -1);
            CHECKS.due("size(6, " + what + ")", x.size(6, what), -1);
        }
        for (int t : new int[] {-1, 7, LEAST, MOST}) {
            CHECKS.due("size(" + t + ", 0)", x.size(t, 0), -1);
            CHECKS.due("size(" + t + ", 1)", x.size(t, 1), -1);
        }
    }

    private static void kinds() {
        CHECKS.says("The kind of a column (16 more when it is AWAY); NONE when there is none such.");
        ColumnHouse x = new ColumnHouse();
        x.table(0, 1);
        CHECKS.due("no column yet", x.kind(0, 0), -1);
        x.column(0, 0);
        x.column(0, 11);
        CHECKS.due("the first", x.kind(0, 0), 0);
        CHECKS.due("the last", x.kind(0, 1), 11);
        CHECKS.due("the one behind it", x.kind(0, 2), -1);
        CHECKS.due("the one ahead of the first", x.kind(0, -1), -1);
        x.away(0, 1, true);
        CHECKS.due("AWAY", x.kind(0, 1), 27);
        String sixteen = "from t0" + " let 1".repeat(14);
        CHECKS.fine(x, sixteen, 1);
        CHECKS.due("the second of the RESULT is AWAY", x.kind(6, 1), 27);
        CHECKS.due("the sixteenth of the RESULT", x.kind(6, 15), 3);
        CHECKS.due("there is no seventeenth", x.kind(6, 16), -1);
        for (int t : new int[] {-1, 7, LEAST, MOST}) {
            CHECKS.due("kind(" + t + ", 0)", x.kind(t, 0), -1);
        }
    }

    private static void creditLeft() {
        CHECKS.says("How much CREDIT is left.");
        ColumnHouse x = new ColumnHouse();
        x.table(0, 60);
        for (int c = 0; c < 8; c++) {
            x.column(0, 11);
            CHECKS.due("credit()", x.credit(), 400_000 - 240 * (c + 1));
        }
        x.table(0, 1);
        CHECKS.due("a new table gives none back", x.credit(), 400_000 - 1920);
        Checks.spendTo(x, 0);
        CHECKS.due("none", x.credit(), 0);
        CHECKS.due("a table takes none", x.table(1, 60), 1);
        CHECKS.due("none is not below 0", x.credit(), 0);
    }

    /** The dearest calls that there are room for: 31 queries of 300 bytes, with what is fed for them. */
    private static void fiveHundredAndTwelveCalls() {
        CHECKS.says("An object is used for at most 512 calls after it has been made; what later calls answer is free.");
        ColumnHouse x = new ColumnHouse();
        x.table(0, 60);
        for (int c = 0; c < 8; c++) {
            x.column(0, 11);
        }
        String dear = "from t0" + " let list(20) first 60 keep a,b,c,d,e,f,g,i".repeat(4);
        String filled = dear + " ".repeat(300 - dear.length());
        int done = 9;
        while (done + 16 <= 512 - 5) {
            CHECKS.due("a query", Checks.ask(x, filled), 60);
            done += 16;
        }
        CHECKS.due("31 queries", done, 9 + 31 * 16);
        int each = 60 * (4 * 8 + 4 * (1 + 4 + 4 * 9));
        CHECKS.due("credit()", x.credit(), 400_000 - 8 * 240 - 31 * each);
        CHECKS.due("the RESULT", x.size(6, 0), 60);
        CHECKS.due("a list of it", x.cell(6, 7, 59), 20);
        done += 3;
        while (done < 511) {
            CHECKS.due("size", x.size(0, 1), 8);
            done++;
        }
        CHECKS.due("the 512th", x.put(0, 0, 59, 20), 1);
    }
}
