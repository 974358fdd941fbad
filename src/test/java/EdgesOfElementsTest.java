/** Boundary cases of PART 1 and of promises 4, 5, 6, 15, 16 and 17, each beside its sentence. */
public final class EdgesOfElementsTest {
    private static final Checks CHECKS = new Checks("EdgesOfElementsTest");
    private static final int LEAST = Integer.MIN_VALUE;
    private static final int MOST = Integer.MAX_VALUE;
    private static final long NAN = 0x7ff8000000000000L;
    private static final int SINGLE_NAN = 0x7fc00000;

    public static void main(String[] args) {
        wholeNumbers();
        singles();
        reals();
        flags();
        putRefuses();
        newLists();
        newListsTakeCredit();
        boxes();
        texts();
        boxesThatDoNotGo();
        boxRefuses();
        boxesTakeCredit();
        items();
        itemRefuses();
        cells();
        sorts();
        numbers();
        CHECKS.end();
    }

    /** A house whose table 3 has one column of a kind. */
    private static ColumnHouse house(int kind, int rows) {
        ColumnHouse x = new ColumnHouse();
        x.table(3, rows);
        x.column(3, kind);
        return x;
    }

    /** What is put, and how it lies there then: pairs. */
    private static void put(int kind, long... pairs) {
        ColumnHouse x = house(kind, 3);
        for (int i = 0; i + 1 < pairs.length; i += 2) {
            CHECKS.due("put " + pairs[i] + " into kind " + kind, x.put(3, 0, 1, pairs[i]), 1);
            CHECKS.due("cell of it", x.cell(3, 0, 1), pairs[i + 1]);
        }
        CHECKS.due("the one ahead stays", x.cell(3, 0, 0), 0);
        CHECKS.due("the one behind stays", x.cell(3, 0, 2), 0);
    }

    private static void wholeNumbers() {
        CHECKS.says("An element becomes v: of whole kinds its lowest bits;");
        CHECKS.says("0 TINY (whole numbers of 8 bits, with a sign)");
        put(0, 126, 126, 127, 127, 128, -128, 129, -127, -127, -127, -128, -128, -129, 127, 255, -1,
                256, 0, -256, 0, Long.MAX_VALUE, -1, Long.MIN_VALUE, 0, 1L << 32, 0);
        CHECKS.says("1 SIGN (16, without)");
        put(1, 65534, 65534, 65535, 65535, 65536, 0, 65537, 1, -1, 65535, 0, 0, 1, 1, 32768, 32768,
                Long.MIN_VALUE, 0, Long.MAX_VALUE, 65535);
        CHECKS.says("2 SMALL (16, with)");
        put(2, 32766, 32766, 32767, 32767, 32768, -32768, -32767, -32767, -32768, -32768, -32769, 32767,
                65535, -1, 65536, 0, Long.MIN_VALUE, 0, Long.MAX_VALUE, -1);
        CHECKS.says("3 WHOLE (32)");
        put(3, MOST - 1, MOST - 1, MOST, MOST, MOST + 1L, LEAST, LEAST + 1, LEAST + 1, LEAST, LEAST, LEAST - 1L, MOST,
                (1L << 32) - 1, -1, 1L << 32, 0, Long.MIN_VALUE, 0, Long.MAX_VALUE, -1);
        CHECKS.says("4 LONG (64)");
        put(4, Long.MAX_VALUE, Long.MAX_VALUE, Long.MIN_VALUE, Long.MIN_VALUE, -1, -1, 0, 0);
    }

    private static void singles() {
        CHECKS.says("SINGLE and REAL: those bits (SINGLE the lowest 32)");
        put(5, 0, 0, 0x80000000L, LEAST, 1, 1, 0x007fffff, 0x007fffff, 0x00800000, 0x00800000, 0x807fffffL,
                (int) 0x807fffffL, 0x80800000L, (int) 0x80800000L, 0x7f7fffff, 0x7f7fffff, 0x7f800000, 0x7f800000,
                0xff800000L, (int) 0xff800000L, 0xffffffff_3f800000L, 0x3f800000, 0x1_00000000L, 0);
        CHECKS.says("SINGLE, REAL: its bits (all NaN alike, as bits)");
        put(5, 0x7f800001, SINGLE_NAN, 0x7fffffff, SINGLE_NAN, 0x7fc00000, SINGLE_NAN, 0xff800001L, SINGLE_NAN,
                0xffc00000L, SINGLE_NAN, -1, SINGLE_NAN);
        CHECKS.says("a NaN being NOTHING");
        ColumnHouse x = house(5, 5);
        long[] bits = {0x7f7fffff, 0x7f800000, 0x7f800001, 0xff800000L, 0xff800001L};
        for (int r = 0; r < bits.length; r++) {
            x.put(3, 0, r, bits[r]);
        }
        CHECKS.gives(x, "from t3 let missing(a)", 7, 0, 0, 1, 0, 1);
    }

    private static void reals() {
        CHECKS.says("SINGLE and REAL: those bits (SINGLE the lowest 32)");
        long infinity = 0x7ff0000000000000L;
        put(6, 0, 0, Long.MIN_VALUE, Long.MIN_VALUE, 1, 1, 0x000fffffffffffffL, 0x000fffffffffffffL,
                0x0010000000000000L, 0x0010000000000000L, infinity - 1, infinity - 1, infinity, infinity,
                infinity | Long.MIN_VALUE, infinity | Long.MIN_VALUE);
        CHECKS.says("SINGLE, REAL: its bits (all NaN alike, as bits)");
        put(6, infinity + 1, NAN, Long.MAX_VALUE, NAN, NAN, NAN, (infinity + 1) | Long.MIN_VALUE, NAN, -1, NAN);
        CHECKS.says("a NaN being NOTHING");
        ColumnHouse x = house(6, 5);
        long[] bits = {infinity - 1, infinity, infinity + 1, infinity | Long.MIN_VALUE, -1};
        for (int r = 0; r < bits.length; r++) {
            x.put(3, 0, r, bits[r]);
        }
        CHECKS.gives(x, "from t3 let missing(a)", 7, 0, 0, 1, 0, 1);
    }

    private static void flags() {
        CHECKS.says("a FLAG: whether v is not 0",
                "a FLAG 1, 0;");
        put(7, 1, 1, 0, 0, -1, 1, 2, 1, 256, 1, 1L << 32, 1, Long.MIN_VALUE, 1, 0, 0);
    }

    private static void putRefuses() {
        CHECKS.says("NONE: no such table, column; else less the FAULT: 1 AWAY; 4 boxes; 2 the row;");
        for (int kind = 0; kind <= 11; kind++) {
            ColumnHouse x = house(kind, 2);
            boolean boxed = kind >= 8 && kind <= 10;
            for (int row : new int[] {-1, 2, LEAST, MOST}) {
                CHECKS.due("put of kind " + kind + ", row " + row, x.put(3, 0, row, 1), boxed ? -4 : -2);
            }
            CHECKS.due("the first row", x.put(3, 0, 0, 1), boxed ? -4 : 1);
            CHECKS.due("the last row", x.put(3, 0, 1, 1), boxed ? -4 : 1);
            x.away(3, 0, true);
            CHECKS.due("AWAY, a row that there is", x.put(3, 0, 0, 0), -1);
            CHECKS.due("AWAY, a row that there is not", x.put(3, 0, 2, 0), -1);
            for (int t : new int[] {-1, 2, 4, 6, LEAST, MOST}) {
                CHECKS.due("no table with a column: " + t, x.put(t, 0, 0, 1), -1);
            }
            x.away(3, 0, false);
            CHECKS.due("what is refused changes nothing", x.cell(3, 0, 0), boxed ? 0 : 1);
        }
    }

    private static void newLists() {
        CHECKS.says("of LISTS: a new list of v zeros: 1.");
        CHECKS.says("11 LISTS: rows of 0 to 20 WHOLEs, or NOTHING.");
        ColumnHouse x = house(11, 2);
        CHECKS.due("NOTHING", x.sort(3, 0, 0), 0);
        for (int v : new int[] {0, 1, 19, 20}) {
            CHECKS.due("a list of " + v, x.put(3, 0, 0, v), 1);
            CHECKS.due("it is a list", x.sort(3, 0, 0), 4);
            CHECKS.due("as many numbers", x.cell(3, 0, 0), v);
            CHECKS.due("the last is 0", x.number(3, 0, 0, v - 1), 0);
            CHECKS.due("it becomes 5", x.item(3, 0, 0, v - 1, 5), v == 0 ? -2 : 1);
            CHECKS.due("none is behind the last", x.item(3, 0, 0, v, 5), -2);
        }
        CHECKS.due("again", x.put(3, 0, 0, 20), 1);
        CHECKS.due("it is new", x.number(3, 0, 0, 19), 0);
        CHECKS.says("of LISTS 8 (four of CREDIT), 3, 7 (v beyond 20).");
        for (long v : new long[] {-1, -2, LEAST, Long.MIN_VALUE, -(1L << 32)}) {
            CHECKS.due("a list of " + v, x.put(3, 0, 0, v), -3);
        }
        for (long v : new long[] {21, 22, MOST, Long.MAX_VALUE, 1L << 32, (1L << 32) + 5}) {
            CHECKS.due("a list of " + v, x.put(3, 0, 0, v), -7);
        }
        CHECKS.due("the row ahead of the size", x.put(3, 0, 2, -1), -2);
        CHECKS.due("the row ahead of the size", x.put(3, 0, -1, 21), -2);
        CHECKS.due("what is refused changes nothing", x.cell(3, 0, 0), 20);
        CHECKS.due("NOTHING stays", x.sort(3, 0, 1), 0);
    }

    private static void newListsTakeCredit() {
        CHECKS.says("of LISTS 8 (four of CREDIT), 3, 7 (v beyond 20). (What is refused takes no CREDIT.)");
        ColumnHouse x = house(11, 2);
        int left = x.credit();
        x.put(3, 0, 0, 21);
        x.put(3, 0, 0, -1);
        x.put(3, 0, 2, 1);
        x.put(3, 1, 0, 1);
        CHECKS.due("refused", x.credit(), left);
        x.put(3, 0, 0, 0);
        CHECKS.due("a list of none", x.credit(), left - 4);
        x.put(3, 0, 0, 20);
        CHECKS.due("a list of twenty", x.credit(), left - 8);
        Checks.spendTo(x, 4);
        CHECKS.due("just enough", x.put(3, 0, 1, 2), 1);
        CHECKS.due("none is left", x.credit(), 0);
        ColumnHouse y = house(11, 2);
        Checks.spendTo(y, 3);
        CHECKS.due("one too little", y.put(3, 0, 1, 2), -8);
        CHECKS.due("8 ahead of 3", y.put(3, 0, 1, -1), -8);
        CHECKS.due("8 ahead of 7", y.put(3, 0, 1, 21), -8);
        CHECKS.due("2 ahead of 8", y.put(3, 0, 2, 2), -2);
        CHECKS.due("nothing is taken", y.credit(), 3);
        CHECKS.due("NOTHING stays", y.sort(3, 0, 1), 0);
        y.away(3, 0, true);
        CHECKS.due("1 ahead of 8", y.put(3, 0, 1, 2), -1);
        y.column(3, 0);
        CHECKS.due("numbers take none", y.put(3, 1, 0, 2), 1);
        CHECKS.due("as told", y.credit(), 1);
    }

    /** A box of a sort in BOXES, and how it lies there. */
    private static void box(int sort, long v, long cell) {
        ColumnHouse x = house(8, 3);
        x.box(3, 0, 1, 1, 99);
        CHECKS.due("box sort " + sort + " of " + v, x.box(3, 0, 1, sort, v), 1);
        CHECKS.due("its sort", x.sort(3, 0, 1), sort);
        CHECKS.due("its cell", x.cell(3, 0, 1), cell);
        CHECKS.due("the one ahead stays NOTHING", x.sort(3, 0, 0), 0);
        CHECKS.due("the one behind stays NOTHING", x.sort(3, 0, 2), 0);
    }

    private static void boxes() {
        CHECKS.says("A box comes into boxes: sort 0 NOTHING, 1 of a WHOLE (v's lowest 32 bits), 2 of a REAL (these "
                + "bits)");
        box(0, 0, 0);
        box(0, 7, 0);
        box(1, 0, 0);
        box(1, MOST, MOST);
        box(1, MOST + 1L, LEAST);
        box(1, LEAST, LEAST);
        box(1, LEAST - 1L, MOST);
        box(1, 1L << 32, 0);
        box(1, -1, -1);
        box(2, 0, 0);
        box(2, Long.MIN_VALUE, Long.MIN_VALUE);
        box(2, 1, 1);
        box(2, 0x7ff0000000000000L, 0x7ff0000000000000L);
        box(2, 0x7ff0000000000001L, NAN);
        box(2, -1, NAN);
        CHECKS.says("NONE: no such table, column, sort;");
        ColumnHouse x = house(8, 1);
        for (int sort : new int[] {-1, 4, LEAST, MOST}) {
            CHECKS.due("sort " + sort, x.box(3, 0, 0, sort, 1), -1);
            x.away(3, 0, true);
            CHECKS.due("ahead of AWAY", x.box(3, 0, 0, sort, 1), -1);
            x.away(3, 0, false);
        }
        for (int t : new int[] {-1, 6, 2, LEAST, MOST}) {
            CHECKS.due("table " + t, x.box(t, 0, 0, 1, 1), -1);
        }
        for (int c : new int[] {-1, 1, LEAST, MOST}) {
            CHECKS.due("column " + c, x.box(3, c, 0, 1, 1), -1);
        }
        CHECKS.due("what is refused changes nothing", x.sort(3, 0, 0), 0);
    }

    private static void texts() {
        CHECKS.says("3 of a text (v's bytes, the highest first, those that are 0 left out): 1.");
        CHECKS.says("of a text (0 to 8 bytes, none 0)");
        box(3, 0, 0);
        box(3, 0x61, 0x61);
        box(3, 0x6100000000000000L, 0x61);
        box(3, 0x6100620000006300L, 0x616263);
        box(3, 0x61626364656667L, 0x61626364656667L);
        box(3, 0x6162636465666768L, 0x6162636465666768L);
        box(3, -1, -1);
        box(3, 0x0100000000000001L, 0x0101);
        box(3, 0xff00000000000000L, 0xff);
        ColumnHouse x = house(10, 4);
        x.box(3, 0, 0, 3, 0);
        x.box(3, 0, 1, 3, 0x6100000000000000L);
        x.box(3, 0, 2, 3, 0x6162636465666768L);
        CHECKS.gives(x, "from t3 let a = ''", 7, 1, 0, 0, 0);
        CHECKS.gives(x, "from t3 let a = 'a'", 7, 0, 1, 0, 0);
        CHECKS.gives(x, "from t3 let a = 'abcdefgh'", 7, 0, 0, 1, 0);
        CHECKS.gives(x, "from t3 let missing(a)", 7, 0, 0, 0, 1);
    }

    private static void boxesThatDoNotGo() {
        CHECKS.says("in NUMBERS are none of texts, in TEXTS none of numbers");
        for (int kind = 8; kind <= 10; kind++) {
            ColumnHouse x = house(kind, 1);
            for (int sort = 0; sort <= 3; sort++) {
                boolean goes = kind == 8 || sort == 0 || (sort == 3) == (kind == 10);
                CHECKS.due("sort " + sort + " into kind " + kind, x.box(3, 0, 0, sort, 65), goes ? 1 : -5);
                if (goes) {
                    CHECKS.due("it came", x.sort(3, 0, 0), sort);
                }
            }
        }
        ColumnHouse y = house(9, 1);
        y.box(3, 0, 0, 1, 7);
        CHECKS.due("a text without bytes is a text", y.box(3, 0, 0, 3, 0), -5);
        CHECKS.due("what was there stays", y.cell(3, 0, 0), 7);
    }

    private static void boxRefuses() {
        CHECKS.says("else less the FAULT: 1 AWAY; 4 no boxes; 8 (four of CREDIT); 2 the row; 5.");
        for (int kind = 0; kind <= 11; kind++) {
            ColumnHouse x = house(kind, 2);
            boolean boxed = kind >= 8 && kind <= 10;
            int wrong = kind == 10 ? 1 : 3;
            for (int row : new int[] {-1, 2, LEAST, MOST}) {
                CHECKS.due("kind " + kind + ", row " + row, x.box(3, 0, row, 0, 1), boxed ? -2 : -4);
                CHECKS.due("2 ahead of 5", x.box(3, 0, row, wrong, 1), boxed ? -2 : -4);
            }
            CHECKS.due("the first row", x.box(3, 0, 0, 0, 1), boxed ? 1 : -4);
            CHECKS.due("the last row", x.box(3, 0, 1, 0, 1), boxed ? 1 : -4);
            x.away(3, 0, true);
            CHECKS.due("1 ahead of all", x.box(3, 0, 2, wrong, 1), -1);
            x.away(3, 0, false);
            Checks.spendTo(x, 3);
            CHECKS.due("8 ahead of 2", x.box(3, 0, 2, 0, 1), boxed ? -8 : -4);
            CHECKS.due("8 ahead of 5", x.box(3, 0, 0, wrong, 1), boxed ? -8 : -4);
            x.away(3, 0, true);
            CHECKS.due("1 ahead of 8", x.box(3, 0, 0, 0, 1), -1);
        }
    }

    private static void boxesTakeCredit() {
        CHECKS.says("8 (four of CREDIT); 2 the row; 5.");
        for (int sort = 0; sort <= 3; sort++) {
            ColumnHouse x = house(8, 1);
            int left = x.credit();
            x.box(3, 0, 0, sort, 5);
            CHECKS.due("a box of sort " + sort, x.credit(), left - 4);
            Checks.spendTo(x, 4);
            CHECKS.due("just enough", x.box(3, 0, 0, sort, 5), 1);
            CHECKS.due("none is left", x.credit(), 0);
            ColumnHouse y = house(8, 1);
            Checks.spendTo(y, 3);
            CHECKS.due("one too little", y.box(3, 0, 0, sort, 5), -8);
            CHECKS.due("nothing is taken", y.credit(), 3);
            CHECKS.due("nothing came", y.sort(3, 0, 0), 0);
        }
        CHECKS.says("(What is refused takes no CREDIT.)");
        ColumnHouse x = house(9, 1);
        int left = x.credit();
        x.box(3, 0, 1, 1, 5);
        x.box(3, 0, 0, 3, 5);
        x.box(3, 0, 0, 4, 5);
        x.away(3, 0, true);
        x.box(3, 0, 0, 1, 5);
        CHECKS.due("refused", x.credit(), left);
    }

    private static void items() {
        CHECKS.says("Number i of a list becomes v: 1.");
        ColumnHouse x = house(11, 2);
        x.put(3, 0, 0, 20);
        x.put(3, 0, 1, 20);
        for (int i : new int[] {0, 1, 18, 19}) {
            for (int v : new int[] {LEAST, -1, 0, 1, MOST}) {
                CHECKS.due("item " + i + " becomes " + v, x.item(3, 0, 0, i, v), 1);
                CHECKS.due("number " + i, x.number(3, 0, 0, i), v);
            }
            CHECKS.due("the other list stays", x.number(3, 0, 1, i), 0);
        }
        CHECKS.due("as many as ahead", x.cell(3, 0, 0), 20);
        CHECKS.due("between them all stay", x.number(3, 0, 0, 2), 0);
        Checks.spendTo(x, 0);
        CHECKS.due("it takes no CREDIT", x.item(3, 0, 0, 0, 8), 1);
    }

    private static void itemRefuses() {
        CHECKS.says("NONE: no such table, column; else less the FAULT: 1 AWAY; 4 no LISTS; 2 the row; 1 NOTHING; 2 i.");
        ColumnHouse x = house(11, 3);
        x.put(3, 0, 0, 2);
        x.put(3, 0, 1, 0);
        for (int i : new int[] {-1, 2, LEAST, MOST}) {
            CHECKS.due("i " + i, x.item(3, 0, 0, i, 5), -2);
            CHECKS.due("i " + i + " of NOTHING", x.item(3, 0, 2, i, 5), -1);
        }
        CHECKS.due("a list of none has no first", x.item(3, 0, 1, 0, 5), -2);
        CHECKS.due("the last of two", x.item(3, 0, 0, 1, 5), 1);
        for (int row : new int[] {-1, 3, LEAST, MOST}) {
            CHECKS.due("row " + row, x.item(3, 0, row, 0, 5), -2);
        }
        for (int c : new int[] {-1, 1, LEAST, MOST}) {
            CHECKS.due("column " + c, x.item(3, c, 0, 0, 5), -1);
        }
        for (int t : new int[] {-1, 2, 6, LEAST, MOST}) {
            CHECKS.due("table " + t, x.item(t, 0, 0, 0, 5), -1);
        }
        x.away(3, 0, true);
        CHECKS.due("AWAY ahead of the row", x.item(3, 0, 3, 0, 9), -1);
        CHECKS.due("AWAY", x.item(3, 0, 0, 0, 9), -1);
        CHECKS.due("what is refused changes nothing", x.number(3, 0, 0, 0), 0);
        for (int kind = 0; kind <= 10; kind++) {
            ColumnHouse y = house(kind, 1);
            CHECKS.due("kind " + kind, y.item(3, 0, 0, 0, 5), -4);
            CHECKS.due("ahead of the row", y.item(3, 0, 1, 0, 5), -4);
            y.away(3, 0, true);
            CHECKS.due("AWAY ahead of no LISTS", y.item(3, 0, 0, 0, 5), -1);
        }
    }

    private static void cells() {
        CHECKS.says("An element as it lies there, also when it is AWAY: whole kinds: the number;");
        for (int kind = 0; kind <= 11; kind++) {
            ColumnHouse x = house(kind, 2);
            x.put(3, 0, 1, 1);
            x.box(3, 0, 1, kind == 10 ? 3 : 1, 1);
            CHECKS.due("cell of kind " + kind, x.cell(3, 0, 1), 1);
            x.away(3, 0, true);
            CHECKS.due("AWAY", x.cell(3, 0, 1), 1);
            CHECKS.says("0 for NOTHING, and when there is none such.");
            CHECKS.due("0, or NOTHING", x.cell(3, 0, 0), 0);
            for (int row : new int[] {-1, 2, LEAST, MOST}) {
                CHECKS.due("row " + row, x.cell(3, 0, row), 0);
            }
            for (int c : new int[] {-1, 1, LEAST, MOST}) {
                CHECKS.due("column " + c, x.cell(3, c, 1), 0);
            }
            for (int t : new int[] {-1, 2, 4, 6, 7, LEAST, MOST}) {
                CHECKS.due("table " + t, x.cell(t, 0, 1), 0);
            }
        }
        CHECKS.says("boxes: a WHOLE, a REAL's bits (likewise), a text's bytes, the first one highest of as many as it "
                + "has; LISTS: how many numbers.");
        ColumnHouse y = new ColumnHouse();
        y.table(0, 6);
        Checks.boxes(y, 0, 8, -5, -0.0, Double.NaN, "", "b", "abcdefgh");
        Checks.lists(y, 0, null, new int[0], new int[20]);
        Checks.ask(y, "from t0");
        long[] due = {-5, Long.MIN_VALUE, NAN, 0, 0x62, 0x6162636465666768L};
        for (int t : new int[] {0, 6}) {
            for (int r = 0; r < due.length; r++) {
                CHECKS.due("cell(" + t + ", 0, " + r + ")", y.cell(t, 0, r), due[r]);
            }
            CHECKS.due("NOTHING", y.cell(t, 1, 0), 0);
            CHECKS.due("a list of none", y.cell(t, 1, 1), 0);
            CHECKS.due("a list of twenty", y.cell(t, 1, 2), 20);
        }
    }

    private static void sorts() {
        CHECKS.says("Of an element of boxes: 0 NOTHING, 1 a WHOLE's, 2 a REAL's, 3 a text's; of LISTS: 0 NOTHING, 4 a "
                + "list; NONE for others, or when there is none such.");
        ColumnHouse y = new ColumnHouse();
        y.table(0, 4);
        Checks.boxes(y, 0, 8, null, 0, 0.0, "");
        Checks.lists(y, 0, null, new int[0], new int[1]);
        y.away(0, 0, true);
        y.away(0, 1, true);
        Checks.ask(y, "from t0");
        for (int t : new int[] {0, 6}) {
            for (int r = 0; r < 4; r++) {
                CHECKS.due("sort(" + t + ", 0, " + r + ")", y.sort(t, 0, r), r);
            }
            CHECKS.due("NOTHING", y.sort(t, 1, 0), 0);
            CHECKS.due("a list of none", y.sort(t, 1, 1), 4);
            CHECKS.due("a list of one", y.sort(t, 1, 2), 4);
            for (int n : new int[] {-1, 4, LEAST, MOST}) {
                CHECKS.due("row " + n, y.sort(t, 0, n), -1);
                CHECKS.due("row " + n + " of LISTS", y.sort(t, 1, n), -1);
                CHECKS.due("column " + n, y.sort(t, n, 0), -1);
            }
        }
        for (int t : new int[] {-1, 1, 7, LEAST, MOST}) {
            CHECKS.due("table " + t, y.sort(t, 0, 0), -1);
        }
        for (int kind = 0; kind <= 7; kind++) {
            CHECKS.due("kind " + kind, house(kind, 1).sort(3, 0, 0), -1);
        }
    }

    private static void numbers() {
        CHECKS.says("Number i of a list; 0 when there is none such.");
        ColumnHouse x = new ColumnHouse();
        x.table(0, 3);
        Checks.lists(x, 0, new int[] {LEAST, 7, MOST}, new int[0], null);
        x.column(0, 3);
        x.away(0, 0, true);
        Checks.ask(x, "from t0");
        for (int t : new int[] {0, 6}) {
            CHECKS.due("the first", x.number(t, 0, 0, 0), LEAST);
            CHECKS.due("the last", x.number(t, 0, 0, 2), MOST);
            for (int n : new int[] {-1, 3, LEAST, MOST}) {
                CHECKS.due("i " + n, x.number(t, 0, 0, n), 0);
                CHECKS.due("row " + n, x.number(t, 0, n, 0), 0);
                CHECKS.due("column " + n, x.number(t, n, 0, 0), 0);
            }
            CHECKS.due("of a list of none", x.number(t, 0, 1, 0), 0);
            CHECKS.due("of NOTHING", x.number(t, 0, 2, 0), 0);
            CHECKS.due("of a WHOLE", x.number(t, 1, 0, 0), 0);
        }
        for (int t : new int[] {-1, 1, 7, LEAST, MOST}) {
            CHECKS.due("table " + t, x.number(t, 0, 0, 0), 0);
        }
    }
}
