/** Promises 1, 2, 3, 7, 13, 14 and 18: a new object, tables, columns, AWAY, sizes, kinds, CREDIT. */
public final class TablesTest {
    private static final Checks CHECKS = new Checks("TablesTest");

    public static void main(String[] args) {
        newObject();
        tables();
        columns();
        columnsWithoutCredit();
        away();
        CHECKS.end();
    }

    private static void newObject() {
        ColumnHouse x = new ColumnHouse();
        CHECKS.due("NONE", ColumnHouse.NONE, -1);
        for (int t = 0; t <= 6; t++) {
            CHECKS.due("size(" + t + ", 0)", x.size(t, 0), 0);
            CHECKS.due("size(" + t + ", 1)", x.size(t, 1), 0);
            CHECKS.due("kind(" + t + ", 0)", x.kind(t, 0), -1);
            CHECKS.due("cell(" + t + ", 0, 0)", x.cell(t, 0, 0), 0);
            CHECKS.due("sort(" + t + ", 0, 0)", x.sort(t, 0, 0), -1);
            CHECKS.due("number(" + t + ", 0, 0, 0)", x.number(t, 0, 0, 0), 0);
        }
        CHECKS.due("credit()", x.credit(), 400_000);
        CHECKS.due("the tape is empty", x.ask(1), -10);
        CHECKS.due("fault(0)", x.fault(0), 0);
        CHECKS.due("fault(1)", x.fault(1), -1);
        CHECKS.due("fault(2)", x.fault(2), -1);
        CHECKS.due("fault(3)", x.fault(3), 0);
        CHECKS.due("fault(4)", x.fault(4), -1);
        CHECKS.due("fault(-1)", x.fault(-1), -1);
        CHECKS.due("held(0)", x.held(0), -1);
    }

    private static void tables() {
        ColumnHouse x = new ColumnHouse();
        CHECKS.due("table(-1, 1)", x.table(-1, 1), -1);
        CHECKS.due("table(6, 1)", x.table(6, 1), -1);
        CHECKS.due("table(0, 61)", x.table(0, 61), -1);
        CHECKS.due("table(0, -61)", x.table(0, -61), -1);
        CHECKS.due("table(5, 60)", x.table(5, 60), 1);
        CHECKS.due("table(4, -60)", x.table(4, -60), 1);
        CHECKS.due("size(5, 0)", x.size(5, 0), 60);
        CHECKS.due("size(4, 0)", x.size(4, 0), -60);
        CHECKS.due("size(5, 2)", x.size(5, 2), -1);
        CHECKS.due("size(5, -1)", x.size(5, -1), -1);
        CHECKS.due("size(7, 0)", x.size(7, 0), -1);
        CHECKS.due("size(-1, 1)", x.size(-1, 1), -1);
        x.column(5, 3);
        CHECKS.due("size(5, 1)", x.size(5, 1), 1);
        CHECKS.due("table(5, 2) again", x.table(5, 2), 1);
        CHECKS.due("size(5, 0) again", x.size(5, 0), 2);
        CHECKS.due("size(5, 1) again", x.size(5, 1), 0);
        CHECKS.due("kind(5, 0) again", x.kind(5, 0), -1);
    }

    private static void columns() {
        ColumnHouse x = new ColumnHouse();
        x.table(0, 10);
        CHECKS.due("column(0, -1)", x.column(0, -1), -1);
        CHECKS.due("column(0, 12)", x.column(0, 12), -1);
        CHECKS.due("column(6, 0)", x.column(6, 0), -1);
        CHECKS.due("column(-1, 0)", x.column(-1, 0), -1);
        int left = 400_000;
        for (int kind = 0; kind <= 11; kind++) {
            if (kind == 8) {
                CHECKS.due("a ninth column", x.column(0, kind), -7);
                x.table(0, 10);
            }
            CHECKS.due("column of kind " + kind, x.column(0, kind), kind % 8);
            CHECKS.due("its kind", x.kind(0, kind % 8), kind);
            CHECKS.due("its first cell", x.cell(0, kind % 8, 0), 0);
            CHECKS.due("its sort", x.sort(0, kind % 8, 9), kind >= 8 ? 0 : -1);
            left -= kind >= 8 ? 40 : 10;
            CHECKS.due("credit()", x.credit(), left);
        }
        CHECKS.due("kind(0, 4)", x.kind(0, 4), -1);
        CHECKS.due("kind(0, -1)", x.kind(0, -1), -1);
        CHECKS.due("kind(7, 0)", x.kind(7, 0), -1);
        x.table(1, -1);
        CHECKS.due("a column of rows below 0", x.column(1, 0), -3);
        x.table(1, 0);
        for (int c = 0; c < 8; c++) {
            CHECKS.due("a column without rows", x.column(1, 11), c);
        }
        CHECKS.due("a ninth without rows", x.column(1, 11), -7);
        CHECKS.due("credit()", x.credit(), left);
    }

    private static void columnsWithoutCredit() {
        ColumnHouse x = new ColumnHouse();
        Checks.spendTo(x, 239);
        CHECKS.due("credit()", x.credit(), 239);
        x.table(0, 60);
        CHECKS.due("column without CREDIT", x.column(0, 9), -8);
        CHECKS.due("credit() stays", x.credit(), 239);
        x.table(0, -5);
        CHECKS.due("3 is ahead of 8", x.column(0, 9), -3);
        x.table(0, 0);
        CHECKS.due("no rows take none", x.column(0, 9), 0);
        x.table(0, 59);
        CHECKS.due("just enough CREDIT", x.column(0, 9), 0);
        CHECKS.due("credit()", x.credit(), 3);
    }

    private static void away() {
        ColumnHouse x = new ColumnHouse();
        x.table(0, 2);
        x.column(0, 3);
        x.put(0, 0, 1, 7);
        CHECKS.due("away(0, 0, false) when there", x.away(0, 0, false), 0);
        CHECKS.due("away(0, 0, true)", x.away(0, 0, true), 1);
        CHECKS.due("away(0, 0, true) again", x.away(0, 0, true), 0);
        CHECKS.due("kind(0, 0) when AWAY", x.kind(0, 0), 19);
        CHECKS.due("cell(0, 0, 1) when AWAY", x.cell(0, 0, 1), 7);
        CHECKS.due("away(0, 0, false)", x.away(0, 0, false), 1);
        CHECKS.due("kind(0, 0)", x.kind(0, 0), 3);
        CHECKS.due("put(0, 0, 1, 8)", x.put(0, 0, 1, 8), 1);
        CHECKS.due("away(0, 1, true)", x.away(0, 1, true), -1);
        CHECKS.due("away(0, -1, true)", x.away(0, -1, true), -1);
        CHECKS.due("away(6, 0, true)", x.away(6, 0, true), -1);
        CHECKS.due("away(-1, 0, true)", x.away(-1, 0, true), -1);
    }
}
