/** Promises 4, 5, 6, 8, 15, 16 and 17: elements are put, boxed, changed, copied and seen. */
public final class ElementsTest {
    private static final Checks CHECKS = new Checks("ElementsTest");

    public static void main(String[] args) {
        wholeKinds();
        otherKinds();
        putRefuses();
        lists();
        boxes();
        boxRefuses();
        items();
        copies();
        copiesOfBoxesAndLists();
        copyRefuses();
        noneSuch();
        CHECKS.end();
    }

    private static void put(int kind, long v, long want) {
        ColumnHouse x = new ColumnHouse();
        x.table(3, 2);
        x.column(3, kind);
        CHECKS.due("put kind " + kind + " " + v, x.put(3, 0, 1, v), 1);
        CHECKS.due("cell kind " + kind + " " + v, x.cell(3, 0, 1), want);
        CHECKS.due("cell ahead of it", x.cell(3, 0, 0), 0);
    }

    private static void wholeKinds() {
        put(0, 127, 127);
        put(0, 128, -128);
        put(0, 0x1ff, -1);
        put(1, 65535, 65535);
        put(1, -1, 65535);
        put(1, 65536, 0);
        put(2, 32768, -32768);
        put(2, 65535, -1);
        put(3, 1L << 31, -(1L << 31));
        put(3, -1, -1);
        put(4, Long.MIN_VALUE, Long.MIN_VALUE);
    }

    private static void otherKinds() {
        put(5, Checks.single(1.5f), Checks.single(1.5f));
        put(5, Checks.single(-1.5f), Checks.single(-1.5f));
        put(5, 0x1_3fc00000L, 0x3fc00000);
        put(5, 0x80000000L, Integer.MIN_VALUE);
        put(5, 0x00000001L, 1);
        put(5, 0x807fffffL, (int) 0x807fffffL);
        put(5, 0x7f800000L, 0x7f800000);
        put(5, 0xff800000L, (int) 0xff800000L);
        put(5, 0x7f800001L, 0x7fc00000);
        put(5, 0xffffffffL, 0x7fc00000);
        put(6, Checks.real(-2.25), Checks.real(-2.25));
        put(6, 1, 1);
        put(6, Long.MIN_VALUE, Long.MIN_VALUE);
        put(6, 0x7ff0000000000000L, 0x7ff0000000000000L);
        put(6, 0x7ff0000000000001L, 0x7ff8000000000000L);
        put(6, -1, 0x7ff8000000000000L);
        put(7, 5, 1);
        put(7, 1L << 40, 1);
        put(7, 0, 0);
        put(11, 20, 20);
        put(11, 0, 0);
    }

    private static void putRefuses() {
        ColumnHouse x = new ColumnHouse();
        x.table(0, 2);
        for (int kind = 5; kind <= 11; kind++) {
            x.column(0, kind);
        }
        CHECKS.due("no table", x.put(6, 0, 0, 1), -1);
        CHECKS.due("no table", x.put(-1, 0, 0, 1), -1);
        CHECKS.due("no column", x.put(0, 7, 0, 1), -1);
        CHECKS.due("no column", x.put(0, -1, 0, 1), -1);
        for (int c = 3; c <= 5; c++) {
            CHECKS.due("boxes", x.put(0, c, 0, 1), -4);
            CHECKS.due("boxes ahead of the row", x.put(0, c, 9, 1), -4);
        }
        CHECKS.due("row", x.put(0, 0, 2, 1), -2);
        CHECKS.due("row", x.put(0, 6, -1, 1), -2);
        CHECKS.due("row ahead of size", x.put(0, 6, 2, -1), -2);
        CHECKS.due("size below 0", x.put(0, 6, 0, -1), -3);
        CHECKS.due("size below 0, long", x.put(0, 6, 0, Long.MIN_VALUE), -3);
        CHECKS.due("size beyond", x.put(0, 6, 0, 21), -7);
        CHECKS.due("size beyond, long", x.put(0, 6, 0, 1L << 32), -7);
        x.away(0, 3, true);
        CHECKS.due("AWAY ahead of boxes", x.put(0, 3, 0, 1), -1);
        x.away(0, 0, true);
        CHECKS.due("AWAY ahead of the row", x.put(0, 0, 9, 1), -1);
    }

    private static void lists() {
        ColumnHouse x = new ColumnHouse();
        x.table(0, 2);
        x.column(0, 11);
        CHECKS.due("sort of NOTHING", x.sort(0, 0, 0), 0);
        int left = x.credit();
        x.put(0, 0, 0, 3);
        CHECKS.due("a list takes four", x.credit(), left - 4);
        x.put(0, 0, 0, 21);
        x.put(0, 0, 0, -1);
        x.put(0, 0, 5, 1);
        CHECKS.due("what is refused takes none", x.credit(), left - 4);
        CHECKS.due("sort of a list", x.sort(0, 0, 0), 4);
        CHECKS.due("sort of the other", x.sort(0, 0, 1), 0);
        CHECKS.due("number 2", x.number(0, 0, 0, 2), 0);
        x.item(0, 0, 0, 2, 77);
        x.put(0, 0, 0, 3);
        CHECKS.due("a new list has zeros", x.number(0, 0, 0, 2), 0);
        x.put(0, 0, 1, 0);
        CHECKS.due("an empty list is a list", x.sort(0, 0, 1), 4);
        Checks.spendTo(x, 7);
        CHECKS.due("with CREDIT", x.put(0, 0, 0, 1), 1);
        CHECKS.due("without CREDIT", x.put(0, 0, 0, 1), -8);
        CHECKS.due("CREDIT ahead of size", x.put(0, 0, 0, -1), -8);
        CHECKS.due("CREDIT ahead of size", x.put(0, 0, 0, 21), -8);
        CHECKS.due("row ahead of CREDIT", x.put(0, 0, 2, 1), -2);
        CHECKS.due("what is left", x.credit(), 3);
    }

    private static void boxOf(int kind, int sort, long v, int answer, long cell) {
        ColumnHouse x = new ColumnHouse();
        x.table(0, 1);
        x.column(0, kind);
        int left = x.credit();
        String what = "box kind " + kind + " sort " + sort + " " + v;
        CHECKS.due(what, x.box(0, 0, 0, sort, v), answer);
        CHECKS.due(what + " sort", x.sort(0, 0, 0), answer == 1 ? sort : 0);
        CHECKS.due(what + " cell", x.cell(0, 0, 0), cell);
        CHECKS.due(what + " credit", x.credit(), answer == 1 ? left - 4 : left);
    }

    private static void boxes() {
        boxOf(8, 0, 5, 1, 0);
        boxOf(8, 1, 5, 1, 5);
        boxOf(8, 1, (1L << 32) + (1L << 31), 1, Integer.MIN_VALUE);
        boxOf(8, 2, Checks.real(0.5), 1, Checks.real(0.5));
        boxOf(8, 2, -1, 1, 0x7ff8000000000000L);
        boxOf(8, 3, Checks.text("abc"), 1, Checks.text("abc"));
        boxOf(8, 3, 0x6100000062000063L, 1, Checks.text("abc"));
        boxOf(8, 3, 0, 1, 0);
        boxOf(8, 3, -1, 1, -1);
        boxOf(9, 1, -7, 1, -7);
        boxOf(9, 2, 1, 1, 1);
        boxOf(9, 3, Checks.text("a"), -5, 0);
        boxOf(9, 0, 0, 1, 0);
        boxOf(10, 1, 1, -5, 0);
        boxOf(10, 2, 1, -5, 0);
        boxOf(10, 3, Checks.text("12345678"), 1, Checks.text("12345678"));
        boxOf(10, 0, 1, 1, 0);
    }

    private static void boxRefuses() {
        ColumnHouse x = new ColumnHouse();
        x.table(0, 1);
        x.column(0, 10);
        x.column(0, 3);
        x.column(0, 11);
        CHECKS.due("no table", x.box(6, 0, 0, 1, 1), -1);
        CHECKS.due("no column", x.box(0, 3, 0, 1, 1), -1);
        CHECKS.due("no sort", x.box(0, 0, 0, 4, 1), -1);
        CHECKS.due("no sort", x.box(0, 0, 0, -1, 1), -1);
        CHECKS.due("no boxes", x.box(0, 1, 0, 1, 1), -4);
        CHECKS.due("no boxes, ahead of the row", x.box(0, 2, 5, 1, 1), -4);
        CHECKS.due("row ahead of fit", x.box(0, 0, 1, 1, 1), -2);
        CHECKS.due("row", x.box(0, 0, -1, 3, 1), -2);
        x.away(0, 0, true);
        x.away(0, 1, true);
        CHECKS.due("AWAY", x.box(0, 0, 9, 1, 1), -1);
        CHECKS.due("AWAY ahead of no boxes", x.box(0, 1, 0, 1, 1), -1);
        x.away(0, 0, false);
        Checks.spendTo(x, 3);
        CHECKS.due("CREDIT ahead of the row", x.box(0, 0, 9, 3, 1), -8);
        CHECKS.due("CREDIT ahead of fit", x.box(0, 0, 0, 1, 1), -8);
        CHECKS.due("kind ahead of CREDIT", x.box(0, 2, 0, 1, 1), -4);
        CHECKS.due("what is left", x.credit(), 3);
    }

    private static void items() {
        ColumnHouse x = new ColumnHouse();
        x.table(0, 3);
        x.column(0, 11);
        x.column(0, 3);
        x.put(0, 0, 0, 2);
        CHECKS.due("item", x.item(0, 0, 0, 1, -9), 1);
        CHECKS.due("number", x.number(0, 0, 0, 1), -9);
        CHECKS.due("number ahead", x.number(0, 0, 0, 0), 0);
        CHECKS.due("i", x.item(0, 0, 0, 2, 1), -2);
        CHECKS.due("i", x.item(0, 0, 0, -1, 1), -2);
        CHECKS.due("NOTHING", x.item(0, 0, 1, 0, 1), -1);
        CHECKS.due("NOTHING ahead of i", x.item(0, 0, 1, 99, 1), -1);
        CHECKS.due("row", x.item(0, 0, 3, 0, 1), -2);
        CHECKS.due("no LISTS", x.item(0, 1, 9, 0, 1), -4);
        CHECKS.due("no column", x.item(0, 2, 0, 0, 1), -1);
        CHECKS.due("no table", x.item(6, 0, 0, 0, 1), -1);
        x.away(0, 1, true);
        CHECKS.due("AWAY", x.item(0, 1, 0, 0, 1), -1);
    }

    private static void copies() {
        ColumnHouse x = new ColumnHouse();
        x.table(0, 5);
        x.table(1, 3);
        Checks.column(x, 0, 3, 1, 2, 3, 4, 5);
        Checks.column(x, 1, 3, 7, 8, 9);
        CHECKS.due("copy", x.copy(1, 0, 1, 0, 0, 3, 2), 1);
        same(x, 0, 1, 2, 3, 8, 9);
        CHECKS.due("copy none", x.copy(1, 0, 3, 0, 0, 5, 0), 1);
        CHECKS.due("copy upwards in itself", x.copy(0, 0, 0, 0, 0, 1, 4), 1);
        same(x, 0, 1, 1, 2, 3, 8);
        CHECKS.due("copy downwards in itself", x.copy(0, 0, 2, 0, 0, 1, 3), 1);
        same(x, 0, 1, 2, 3, 8, 8);
        CHECKS.due("copy to its own place", x.copy(0, 0, 0, 0, 0, 0, 5), 1);
        same(x, 0, 1, 2, 3, 8, 8);
    }

    private static void same(ColumnHouse x, int column, long... want) {
        for (int r = 0; r < want.length; r++) {
            CHECKS.due("cell " + r, x.cell(0, column, r), want[r]);
        }
    }

    private static void copiesOfBoxesAndLists() {
        ColumnHouse x = new ColumnHouse();
        x.table(0, 4);
        x.column(0, 8);
        x.column(0, 9);
        x.column(0, 10);
        x.column(0, 11);
        x.box(0, 0, 0, 1, 11);
        x.box(0, 0, 2, 2, Checks.real(2.5));
        x.box(0, 0, 3, 3, Checks.text("hey"));
        int left = x.credit();
        CHECKS.due("a text into NUMBERS", x.copy(0, 0, 0, 0, 1, 0, 4), -5);
        CHECKS.due("a WHOLE came", x.cell(0, 1, 0), 11);
        CHECKS.due("NOTHING came", x.sort(0, 1, 1), 0);
        CHECKS.due("a REAL came", x.cell(0, 1, 2), Checks.real(2.5));
        CHECKS.due("the text did not", x.sort(0, 1, 3), 0);
        CHECKS.due("a number into TEXTS", x.copy(0, 0, 1, 0, 2, 0, 3), -5);
        CHECKS.due("a text into TEXTS", x.copy(0, 0, 3, 0, 2, 1, 1), 1);
        CHECKS.due("the text came", x.cell(0, 2, 1), Checks.text("hey"));
        CHECKS.due("a box into LISTS", x.copy(0, 0, 0, 0, 3, 0, 1), -5);
        x.put(0, 3, 0, 2);
        CHECKS.due("NOTHING into LISTS", x.copy(0, 0, 1, 0, 3, 0, 1), 1);
        CHECKS.due("it is NOTHING now", x.sort(0, 3, 0), 0);
        x.put(0, 3, 1, 2);
        x.item(0, 3, 1, 0, 5);
        CHECKS.due("a list into BOXES", x.copy(0, 3, 0, 0, 0, 0, 2), -5);
        CHECKS.due("NOTHING came ahead of it", x.sort(0, 0, 0), 0);
        CHECKS.due("a list in LISTS", x.copy(0, 3, 1, 0, 3, 2, 1), 1);
        x.item(0, 3, 2, 0, 6);
        CHECKS.due("changed there", x.number(0, 3, 2, 0), 6);
        CHECKS.due("not changed here", x.number(0, 3, 1, 0), 5);
        CHECKS.due("a copy takes no CREDIT", x.credit(), left - 8);
    }

    private static void copyRefuses() {
        ColumnHouse x = new ColumnHouse();
        x.table(0, 3);
        x.table(1, 2);
        x.column(0, 3);
        x.column(0, 4);
        x.column(0, 8);
        x.column(1, 3);
        CHECKS.due("no table", x.copy(6, 0, 0, 0, 0, 0, 1), -1);
        CHECKS.due("no table", x.copy(0, 0, 0, 6, 0, 0, 1), -1);
        CHECKS.due("no column", x.copy(0, 3, 0, 0, 0, 0, 1), -1);
        CHECKS.due("no column", x.copy(0, 0, 0, 1, 1, 0, 1), -1);
        CHECKS.due("other kind", x.copy(0, 0, 0, 0, 1, 0, 1), -5);
        CHECKS.due("other kind, ahead of the place", x.copy(0, 0, 9, 0, 2, 0, 1), -5);
        CHECKS.due("i", x.copy(0, 0, -1, 1, 0, 0, 1), -2);
        CHECKS.due("j", x.copy(0, 0, 0, 1, 0, -1, 1), -2);
        CHECKS.due("n", x.copy(0, 0, 0, 1, 0, 0, -1), -2);
        CHECKS.due("i and n", x.copy(0, 0, 2, 1, 0, 0, 2), -2);
        CHECKS.due("j and n", x.copy(0, 0, 0, 1, 0, 1, 2), -2);
        CHECKS.due("i and n, beyond ints", x.copy(0, 0, 1, 1, 0, 0, Integer.MAX_VALUE), -2);
        CHECKS.due("j and n, beyond ints", x.copy(0, 0, 0, 1, 0, Integer.MAX_VALUE, 1), -2);
        CHECKS.due("i beyond", x.copy(0, 0, 4, 1, 0, 0, 0), -2);
        x.away(1, 0, true);
        CHECKS.due("AWAY there", x.copy(0, 0, 0, 1, 0, 0, 9), -1);
        CHECKS.due("AWAY here, ahead of the kind", x.copy(1, 0, 0, 0, 1, 0, 1), -1);
    }

    private static void noneSuch() {
        ColumnHouse x = new ColumnHouse();
        x.table(0, 2);
        x.column(0, 8);
        x.column(0, 11);
        x.column(0, 3);
        x.put(0, 1, 0, 1);
        x.item(0, 1, 0, 0, 4);
        x.put(0, 2, 0, 4);
        for (int row : new int[] {-1, 2, Integer.MAX_VALUE, Integer.MIN_VALUE}) {
            CHECKS.due("cell row " + row, x.cell(0, 2, row), 0);
            CHECKS.due("sort row " + row, x.sort(0, 0, row), -1);
            CHECKS.due("sort row " + row, x.sort(0, 1, row), -1);
            CHECKS.due("number row " + row, x.number(0, 1, row, 0), 0);
            CHECKS.due("number i " + row, x.number(0, 1, 0, row), 0);
            CHECKS.due("cell table " + row, x.cell(row == 2 ? 7 : row, 2, 0), 0);
            CHECKS.due("sort column " + row, x.sort(0, row == 2 ? 3 : row, 0), -1);
        }
        CHECKS.due("sort of a WHOLE", x.sort(0, 2, 0), -1);
        CHECKS.due("number of a WHOLE", x.number(0, 2, 0, 0), 0);
        CHECKS.due("number of NOTHING", x.number(0, 1, 1, 0), 0);
        x.away(0, 1, true);
        CHECKS.due("cell when AWAY", x.cell(0, 1, 0), 1);
        CHECKS.due("sort when AWAY", x.sort(0, 1, 0), 4);
        CHECKS.due("number when AWAY", x.number(0, 1, 0, 0), 4);
    }
}
