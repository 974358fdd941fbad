/** Calls that several sentences of the document bear on, from different parts of it: all of them hold. */
public final class TogetherTest {
    private static final Checks CHECKS = new Checks("TogetherTest");
    private static final int NONE = ColumnHouse.NONE;

    public static void main(String[] args) {
        everyStep();
        awayInTheResult();
        awayWithoutRows();
        awayThatIsKept();
        theResultIsItsOwn();
        listsOfTablesAndResult();
        intoTheTableOfFrom();
        overTheTableOfFrom();
        joinWithWhatIntoMade();
        joinWithItself();
        changedAheadOfAFault();
        copiedUpToAFault();
        nothingIsDone();
        notRead();
        noCreditForFrom();
        sixteenAheadOfSafe();
        rowsBelowZero();
        notANumber();
        aNumbersBox();
        nothingGoesAnywhere();
        wholesThatGoRound();
        textsOfBytes();
        bracketsOfAFold();
        letGoWhateverHappens();
        takenUpAndEnded();
        rowsThatAreMoved();
        CHECKS.end();
    }

    /** Table 0: a, WHOLEs. */
    private static ColumnHouse house(long... a) {
        ColumnHouse x = new ColumnHouse();
        x.table(0, a.length);
        Checks.column(x, 0, 3, a);
        return x;
    }

    private static void everyStep() {
        CHECKS.says("A house of columns: tables whose columns are rows of one kind each, queries that select, reckon, "
                + "group, join and sort them, operator by operator, over whole columns;",
                "query = \"from\" table {step}.");
        ColumnHouse x = house(3, -1, 4, 1, 5, 9);
        Checks.boxes(x, 0, 10, "x", "y", "x", "z", "y", "z");
        x.table(1, 3);
        Checks.boxes(x, 1, 10, "z", "y", "x");
        Checks.column(x, 1, 6, Checks.real(0.5), Checks.real(1.5), Checks.real(2.5));
        x.table(3, 3);
        Checks.column(x, 3, 4, 70, 80, 90);
        Checks.column(x, 3, 6, 0, 0, 0);
        int left = x.credit();
        CHECKS.fine(x, "from t0 where a > 0 let a * a group b: sum(c) join t1 on a = a sort b down first 2 "
                + "keep b, d into t2 over t3 at 1", 2);
        CHECKS.due("30 + 12 + 25 + 5 + 15 + 30 + 30 + 20 + 4 of CREDIT", left - x.credit(), 171);
        CHECKS.heldAre(x, 0, 2, 4, 6, 7, 5, 3, 1);
        for (int t : new int[] {2, 6}) {
            CHECKS.due("columns of table " + t, x.size(t, 1), 2);
            CHECKS.due("kind of a", x.kind(t, 0), 4);
            CHECKS.due("kind of b", x.kind(t, 1), 6);
            CHECKS.lies(x, t, 0, 82, 25);
            CHECKS.lies(x, t, 1, Checks.real(0.5), Checks.real(2.5));
        }
        CHECKS.lies(x, 3, 0, 70, 82, 25);
        CHECKS.lies(x, 3, 1, 0, Checks.real(0.5), Checks.real(2.5));
        CHECKS.lies(x, 0, 0, 3, -1, 4, 1, 5, 9);
    }

    private static void awayInTheResult() {
        CHECKS.says("A column that is AWAY stays so by from and into;",
                "An element as it lies there, also when it is AWAY:",
                "The kind of a column (16 more when it is AWAY);");
        ColumnHouse x = house(5, 6);
        Checks.lists(x, 0, new int[] {7, 8}, null);
        x.away(0, 0, true);
        x.away(0, 1, true);
        CHECKS.fine(x, "from t0 into t1", 2);
        for (int t : new int[] {0, 1, 6}) {
            CHECKS.due("kind of a", x.kind(t, 0), 19);
            CHECKS.due("kind of b", x.kind(t, 1), 27);
            CHECKS.lies(x, t, 0, 5, 6);
            CHECKS.lies(x, t, 1, 2, 0);
            CHECKS.due("sort", x.sort(t, 1, 0), 4);
            CHECKS.due("number", x.number(t, 1, 0, 1), 8);
        }
        CHECKS.says("A column is AWAY from now on, or comes back as it was: 1;",
                "Behind the last step the WORKING TABLE is the RESULT (table 6);");
        CHECKS.due("away(0, 0, false)", x.away(0, 0, false), 1);
        CHECKS.due("kind of table 0", x.kind(0, 0), 3);
        CHECKS.due("kind of table 1", x.kind(1, 0), 19);
        CHECKS.due("kind of the RESULT", x.kind(6, 0), 19);
    }

    private static void awayWithoutRows() {
        CHECKS.says("1 at the first column that is AWAY, if a row is moved (columns in their order); what is made is "
                + "not AWAY.",
                "first: at most so many rows.",
                "one for each ROW of each column, four of kinds 8 to 11");
        for (String step : new String[] {"first 0", "where b < 0", "where missing(b)"}) {
            ColumnHouse x = house(1, 2);
            Checks.column(x, 0, 4, 1, 2);
            x.away(0, 0, true);
            CHECKS.fine(x, "from t0 " + step, 0);
            CHECKS.due(step + ": kind", x.kind(6, 0), 3);
            CHECKS.due(step + ": columns", x.size(6, 1), 2);
        }
        ColumnHouse x = house(1, 2);
        x.away(0, 0, true);
        int left = x.credit();
        CHECKS.fault(x, "from t0 first 1", 1, 8, NONE);
        CHECKS.due("2 for from, 1 for first", left - x.credit(), 3);
        CHECKS.fine(x, "from t0 first 0 sort a first 9 group a: last(a)", 0);
        CHECKS.due("nothing is AWAY by then", x.kind(6, 1), 3);
    }

    private static void awayThatIsKept() {
        CHECKS.says("keep: these columns alone (2), in this order (one may come twice;",
                "ex is one column more (AWAY, if it is a column by itself that is).",
                "What an operator or function gives is never AWAY (safe gives what its part is).",
                "columns and safe take none");
        ColumnHouse x = house(1, 2);
        Checks.column(x, 0, 3, 3, 4);
        x.away(0, 0, true);
        int left = x.credit();
        CHECKS.fine(x, "from t0 let a let (a) let safe(a, b) keep e, b, a, a, d, c", 2);
        CHECKS.due("4 for from, and nothing else", left - x.credit(), 4);
        int[] kinds = {19, 3, 19, 19, 19, 19};
        for (int c = 0; c < kinds.length; c++) {
            CHECKS.due("kind of column " + c, x.kind(6, c), kinds[c]);
        }
        CHECKS.faultAt(x, "from t0 let safe(a, b) + b", 1, "+", 0);
        CHECKS.due("safe had taken nothing up", x.fault(3), 0);
        CHECKS.gives(x, "from t0 let safe(a + b, b)", 3, 3, 4);
        CHECKS.due("here it has", x.fault(3), 1);
    }

    private static void theResultIsItsOwn() {
        CHECKS.says("A table becomes a new one of so many ROWS, without columns: 1.",
                "An element becomes v:",
                "Behind the last step the WORKING TABLE is the RESULT (table 6); with a FAULT that stays as it was.");
        ColumnHouse x = house(1, 2, 3);
        CHECKS.fine(x, "from t0", 3);
        x.put(0, 0, 0, 9);
        CHECKS.lies(x, 6, 0, 1, 2, 3);
        x.copy(0, 0, 0, 0, 0, 1, 1);
        CHECKS.lies(x, 0, 0, 9, 9, 3);
        CHECKS.lies(x, 6, 0, 1, 2, 3);
        x.table(0, 1);
        CHECKS.lies(x, 6, 0, 1, 2, 3);
        CHECKS.fault(x, "from t0 keep a", 2, 13, NONE);
        CHECKS.lies(x, 6, 0, 1, 2, 3);
        CHECKS.fine(x, "from t0", 1);
        CHECKS.due("a RESULT without columns", x.size(6, 1), 0);
        CHECKS.due("none such", x.cell(6, 0, 0), 0);
    }

    private static void listsOfTablesAndResult() {
        CHECKS.says("(A list that lies in several places is changed in one of them alone.)",
                "prior(x): any kind: of row 0 x's, of others that of the row ahead.",
                "last: the last row's, of any kind.",
                "into: 7 for more than 8 columns; the table becomes the WORKING TABLE.");
        ColumnHouse x = new ColumnHouse();
        x.table(0, 2);
        Checks.lists(x, 0, new int[] {1, 2}, new int[] {3});
        CHECKS.fine(x, "from t0 let prior(a) let if(row = 0, a, b) keep a, b, c, a into t1", 2);
        CHECKS.due("item of table 0", x.item(0, 0, 0, 0, 50), 1);
        CHECKS.due("item of table 1", x.item(1, 1, 1, 0, 60), 1);
        CHECKS.due("item of table 1", x.item(1, 3, 0, 1, 70), 1);
        long[][] zero = {{1, 1, 1, 1}, {3, 60, 1, 3}};
        for (int row = 0; row < 2; row++) {
            for (int c = 0; c < 4; c++) {
                CHECKS.due("table 1, " + c + ", " + row, x.number(1, c, row, 0), zero[row][c]);
                CHECKS.due("RESULT, " + c + ", " + row, x.number(6, c, row, 0), zero[row][c] == 60 ? 1 : zero[row][c]);
            }
        }
        CHECKS.due("table 1, the one that was changed", x.number(1, 3, 0, 1), 70);
        CHECKS.due("table 1, one that wasn't", x.number(1, 0, 0, 1), 2);
        CHECKS.fault(x, "from t0 group: last(a), last(a) over t0 at 0", 2, 32, NONE);
        CHECKS.due("the first column came", x.number(0, 0, 0, 0), 3);
        CHECKS.due("item of table 0", x.item(0, 0, 0, 0, 80), 1);
        CHECKS.due("the one that it was copied from", x.number(0, 0, 1, 0), 3);
    }

    private static void intoTheTableOfFrom() {
        CHECKS.says("into: 7 for more than 8 columns; the table becomes the WORKING TABLE.",
                "The table is HELD then; so is that of join, into, over, when its step begins; all are let go at the "
                + "end, the latest first, also when the query ends with a FAULT.",
                "What was held and let go in the latest ask() that was not -10, in order");
        ColumnHouse x = house(3, 1, 2);
        CHECKS.fine(x, "from t0 sort a let a + a into t0 where a > 1 into t0", 2);
        CHECKS.heldAre(x, 0, 0, 0, 1, 1, 1);
        CHECKS.lies(x, 0, 0, 2, 3);
        CHECKS.lies(x, 0, 1, 4, 6);
        CHECKS.fault(x, "from t0 let 2 into t0 let c / (a - 3)", 6, 28, 1);
        CHECKS.heldAre(x, 0, 0, 1, 1);
        CHECKS.due("columns of table 0", x.size(0, 1), 3);
        CHECKS.due("columns of the RESULT", x.size(6, 1), 2);
    }

    private static void overTheTableOfFrom() {
        CHECKS.says("COPY (PART 4) of all ROWS from 0 on to the place that is told;",
                "(or itself, as if by way of a third one)",
                "What was changed by into and over stays.");
        ColumnHouse x = house(1, 2, 3);
        CHECKS.fine(x, "from t0 first 2 over t0 at 1", 2);
        CHECKS.lies(x, 0, 0, 1, 1, 2);
        CHECKS.lies(x, 6, 0, 1, 2);
        CHECKS.fine(x, "from t0 let a * 10 keep b over t0 at 0 join t0 on a = a", 5);
        CHECKS.lies(x, 0, 0, 10, 10, 20);
        CHECKS.heldAre(x, 0, 0, 0, 1, 1, 1);
        CHECKS.cells(x, "the pairs", 0, 10, 10, 10, 10, 20);
    }

    private static void joinWithWhatIntoMade() {
        CHECKS.says("into: 7 for more than 8 columns; the table becomes the WORKING TABLE.",
                "then all pairs of a row of the WORKING TABLE and one of the other table, by the one, then the other, "
                + "that are =: both rows' columns behind one another;",
                "the first of the WORKING TABLE, the second of the other one");
        ColumnHouse x = house(1, 2, 4);
        CHECKS.fine(x, "from t0 let a * a into t1 join t1 on b = a", 2);
        CHECKS.cells(x, "a", 0, 1, 2);
        CHECKS.cells(x, "b", 1, 1, 4);
        CHECKS.cells(x, "c", 2, 1, 4);
        CHECKS.cells(x, "d", 3, 1, 16);
    }

    private static void joinWithItself() {
        CHECKS.says("4 when = can't take both; 7 when there would be more than 16; then all pairs",
                "by where, join, group, sort, first it is moved row by row: 1 at the first column that is AWAY",
                "the 61st pair: 7; then CREDIT.");
        ColumnHouse x = house(1, 1, 1, 1, 1, 1, 1, 1);
        Checks.column(x, 0, 3);
        x.away(0, 1, true);
        int left = x.credit();
        CHECKS.fault(x, "from t0 join t0 on a = a", 7, 8, NONE);
        CHECKS.due("16 for from, none for join", left - x.credit(), 16);
        CHECKS.fault(x, "from t0 join t0 on a = b", 1, 8, NONE);
        CHECKS.due("16 for from, none for join", left - x.credit(), 32);
        x.put(0, 0, 0, 2);
        x.put(0, 0, 1, 3);
        CHECKS.fault(x, "from t0 join t0 on a = a", 1, 8, NONE);
        CHECKS.due("16 for from, 38 pairs of 4 columns", left - x.credit(), 48 + 38 * 4);
        x.away(0, 1, false);
        CHECKS.fine(x, "from t0 join t0 on a = a", 38);
    }

    private static void changedAheadOfAFault() {
        CHECKS.says("What was changed by into and over stays.",
                "with a FAULT that stays as it was.",
                "Of the latest ask() that was not -10: 0 the FAULT (0: none), 1 its place in the text, 2 its row");
        ColumnHouse x = house(1, 2);
        CHECKS.fine(x, "from t0", 2);
        x.table(1, 3);
        Checks.column(x, 1, 3, 7, 8, 9);
        CHECKS.fault(x, "from t0 over t1 at 1 let a[0] into t2", 4, 26, NONE);
        CHECKS.lies(x, 1, 0, 7, 1, 2);
        CHECKS.due("table 2 is as it was", x.size(2, 1), 0);
        CHECKS.lies(x, 6, 0, 1, 2);
        CHECKS.heldAre(x, 0, 2, 3, 1);
    }

    private static void copiedUpToAFault() {
        CHECKS.says("its FAULT ends the query (of 5 by an element: its row); what was copied stays.",
                "those ahead of it are copied, it and those behind it not.",
                "5 at a box (or list) that doesn't go there (a list into 8 to 10, a box into 11, a text's into 9, a "
                + "number's into 10)",
                "in NUMBERS are none of texts, in TEXTS none of numbers;");
        ColumnHouse x = house(4, 5, 6);
        Checks.boxes(x, 0, 8, 1, null, "no");
        Checks.column(x, 0, 3, 7, 8, 9);
        x.table(1, 4);
        Checks.column(x, 1, 3, 0, 0, 0, 0);
        Checks.boxes(x, 1, 9, 50, 51, 52, 53);
        Checks.column(x, 1, 3, 0, 0, 0, 0);
        CHECKS.fault(x, "from t0 over t1 at 1", 5, 8, 2);
        CHECKS.lies(x, 1, 0, 0, 4, 5, 6);
        CHECKS.lies(x, 1, 1, 50, 1, 0, 53);
        CHECKS.due("NOTHING came", x.sort(1, 1, 2), 0);
        CHECKS.lies(x, 1, 2, 0, 0, 0, 0);
        CHECKS.due("copy of the same", x.copy(0, 1, 0, 1, 1, 0, 3), -5);
        CHECKS.lies(x, 1, 1, 1, 0, 0, 53);
    }

    private static void nothingIsDone() {
        CHECKS.says("-10, doing nothing: n is below 0 or more than there are.",
                "Of the latest ask() that was not -10: 0 the FAULT (0: none)",
                "What was held and let go in the latest ask() that was not -10, in order");
        ColumnHouse x = house(1, 0);
        CHECKS.fault(x, "from t0 let safe(1 / 0, 1) let 1 / a", 6, 33, 1);
        int left = x.credit();
        CHECKS.due("feed", Checks.feed(x, "from t0 into t3"), 20);
        for (int n : new int[] {-1, 21, 300, Integer.MIN_VALUE, Integer.MAX_VALUE}) {
            CHECKS.due("ask(" + n + ")", x.ask(n), -10);
        }
        CHECKS.due("fault(0)", x.fault(0), 6);
        CHECKS.due("fault(1)", x.fault(1), 33);
        CHECKS.due("fault(2)", x.fault(2), 1);
        CHECKS.due("fault(3)", x.fault(3), 1);
        CHECKS.heldAre(x, 0, 1);
        CHECKS.due("credit()", x.credit(), left);
        CHECKS.due("table 3", x.size(3, 1), 0);
        CHECKS.due("ask(15)", x.ask(15), 2);
        CHECKS.due("table 3", x.size(3, 1), 1);
        CHECKS.due("the tape is empty then", x.ask(1), -10);
    }

    private static void notRead() {
        CHECKS.says("is FAULT 9; the query isn't done then.",
                "(nothing behind FAULT 9)",
                "(NONE for both without one)",
                "The first n bytes of the tape (which is empty then) are done as a query:");
        ColumnHouse x = house(1, 2);
        CHECKS.fine(x, "from t0 first 1", 1);
        CHECKS.fine(x, "from t0 let safe(a / 0, a)", 2);
        int left = x.credit();
        CHECKS.fault(x, "from t0 into t1 let a / 0 over t1 at 0l", 9, 37, NONE);
        CHECKS.due("fault(3)", x.fault(3), 0);
        CHECKS.heldAre(x);
        CHECKS.due("credit()", x.credit(), left);
        CHECKS.due("table 1", x.size(1, 1), 0);
        CHECKS.due("the RESULT", x.size(6, 1), 2);
        CHECKS.due("the tape is empty then", x.ask(1), -10);
        CHECKS.fault(x, "", 9, 0, NONE);
    }

    private static void noCreditForFrom() {
        CHECKS.says("8 when there is not as much (nothing is taken then).",
                "with a FAULT that stays as it was.",
                "all are let go at the end, the latest first, also when the query ends with a FAULT.",
                "if a FAULT other than 8 comes as x is worked out");
        ColumnHouse x = house(1, 2, 3);
        CHECKS.fine(x, "from t0", 3);
        Checks.spendTo(x, 5);
        Checks.ask(x, "from t0");
        CHECKS.due("credit()", x.credit(), 2);
        CHECKS.due("the RESULT", x.size(6, 0), 3);
        CHECKS.fault(x, "from t0 let safe(1, 2)", 8, 0, NONE);
        CHECKS.heldAre(x, 0, 1);
        CHECKS.due("credit()", x.credit(), 2);
        x.table(1, 2);
        CHECKS.fine(x, "from t1 let row", 2);
        CHECKS.fault(x, "from t1 let safe(row, row)", 8, 17, NONE);
        CHECKS.due("credit()", x.credit(), 0);
        CHECKS.due("columns of no rows take none", x.table(1, 0), 1);
        CHECKS.due("column(1, 11)", x.column(1, 11), 0);
        CHECKS.fine(x, "from t1 let row let nil sort b group: count", 0);
    }

    private static void sixteenAheadOfSafe() {
        CHECKS.says("let: 7 if there are 16 (ahead of ex)",
                "3 how many FAULTS safe() took up in it.",
                "if a FAULT other than 8 comes as x is worked out, it is taken up");
        ColumnHouse x = house(1);
        String wide = "from t0 keep a,a,a,a,a,a,a,a,a,a,a,a,a,a,a,a ";
        int left = x.credit();
        CHECKS.fault(x, wide + "let safe(1 / 0, 2)", 7, wide.length(), NONE);
        CHECKS.due("fault(3)", x.fault(3), 0);
        CHECKS.due("1 for from", left - x.credit(), 1);
        CHECKS.fine(x, wide.replaceFirst("a,", "") + "let safe(1 / 0, 2)", 1);
        CHECKS.due("fault(3)", x.fault(3), 1);
        CHECKS.fault(x, wide + "into t1", 7, wide.length(), NONE);
        CHECKS.heldAre(x, 0, 2, 3, 1);
    }

    private static void rowsBelowZero() {
        CHECKS.says("from, join, over: 3 when the table's ROWS are below 0.",
                "have ROWS (-60 to 60, told when the table is made)",
                "into: 7 for more than 8 columns; the table becomes the WORKING TABLE.",
                "the latest first");
        ColumnHouse x = house(1, 2);
        x.table(3, -1);
        CHECKS.due("size(3, 0)", x.size(3, 0), -1);
        CHECKS.due("column(3, 3)", x.column(3, 3), -3);
        CHECKS.fault(x, "from t3", 3, 0, NONE);
        CHECKS.heldAre(x, 6, 7);
        CHECKS.fault(x, "from t0 over t3 at 0", 3, 8, NONE);
        CHECKS.heldAre(x, 0, 6, 7, 1);
        CHECKS.fault(x, "from t0 join t3 on a = a", 3, 8, NONE);
        CHECKS.heldAre(x, 0, 6, 7, 1);
        CHECKS.fine(x, "from t0 into t3 join t3 on a = a", 2);
        CHECKS.due("size(3, 0)", x.size(3, 0), 2);
        CHECKS.due("column(3, 3)", x.column(3, 3), 1);
    }

    private static void notANumber() {
        CHECKS.says("a NaN being NOTHING",
                "missing: any kind: FLAGS: whether it is NOTHING.",
                "SINGLE, REAL: its bits (all NaN alike, as bits)",
                "(= or both NOTHING;",
                "(a NaN is a number here)");
        long nan = Checks.real(Double.NaN);
        ColumnHouse x = new ColumnHouse();
        x.table(0, 4);
        Checks.column(x, 0, 6, 0x7ff0000000000001L, Checks.real(1), -1, Checks.real(0));
        CHECKS.lies(x, 0, 0, nan, Checks.real(1), nan, 0);
        CHECKS.gives(x, "from t0 let missing(a)", 7, 1, 0, 1, 0);
        CHECKS.gives(x, "from t0 let a + 1", 6, nan, Checks.real(2), nan, Checks.real(1));
        CHECKS.gives(x, "from t0 let a = a", 7, 0, 1, 0, 1);
        CHECKS.gives(x, "from t0 let single(a) let bits(b)", 3, 0x7fc00000, 0x3f800000, 0x7fc00000, 0);
        CHECKS.gives(x, "from t0 group a: count", 3, 2, 1, 1);
        CHECKS.gives(x, "from t0 let row sort a down", 3, 1, 3, 0, 2);
        CHECKS.fine(x, "from t0 join t0 on a = a", 2);
    }

    private static void aNumbersBox() {
        CHECKS.says("4 to 6: NUMBERS of REALs;",
                "whose elements are boxes: of a WHOLE, of a REAL, or of a text (0 to 8 bytes, none 0), or NOTHING;",
                "a WHOLE, a REAL's bits (likewise)",
                "and NOTHING of boxes (behind a NaN's box).");
        long nan = Checks.real(Double.NaN);
        ColumnHouse x = new ColumnHouse();
        x.table(0, 4);
        int a = Checks.boxes(x, 0, 8, null, Double.NaN, "z", 3);
        CHECKS.due("a NaN's box is a REAL's", x.sort(0, a, 1), 2);
        CHECKS.lies(x, 0, a, 0, nan, 'z', 3);
        CHECKS.gives(x, "from t0 let missing(a)", 7, 1, 0, 0, 0);
        CHECKS.gives(x, "from t0 let a = a", 7, 1, 0, 1, 1);
        CHECKS.gives(x, "from t0 let row sort a", 3, 3, 2, 1, 0);
        CHECKS.gives(x, "from t0 let row sort a down", 3, 2, 3, 1, 0);
        x.table(1, 2);
        Checks.column(x, 1, 5, -1, Checks.single(2.5f));
        CHECKS.gives(x, "from t1 let box(a)", 9, nan, Checks.real(2.5));
        CHECKS.due("sort", x.sort(6, 1, 0), 2);
        CHECKS.gives(x, "from t1 let box(a) let missing(b)", 7, 0, 0);
        CHECKS.gives(x, "from t1 let missing(a)", 7, 1, 0);
        CHECKS.gives(x, "from t1 let tiny(a) let box(b)", 9, 0, 2);
        CHECKS.due("of a WHOLE", x.sort(6, 2, 1), 1);
    }

    private static void nothingGoesAnywhere() {
        CHECKS.says("5 when their kinds are different, but both 8 to 11;",
                "11 LISTS: rows of 0 to 20 WHOLEs, or NOTHING.",
                "(a list into 8 to 10, a box into 11, a text's into 9, a number's into 10)");
        ColumnHouse x = new ColumnHouse();
        x.table(0, 1);
        for (int kind = 8; kind <= 11; kind++) {
            x.column(0, kind);
        }
        x.table(1, 1);
        Checks.boxes(x, 1, 8, 1);
        Checks.boxes(x, 1, 9, 1);
        Checks.boxes(x, 1, 10, "a");
        Checks.lists(x, 1, new int[] {1});
        for (int from = 0; from < 4; from++) {
            for (int to = 0; to < 4; to++) {
                CHECKS.fine(x, "from t1 into t2", 1);
                CHECKS.due("NOTHING of " + from + " into " + to, x.copy(0, from, 0, 2, to, 0, 1), 1);
                CHECKS.due("sort", x.sort(2, to, 0), 0);
                CHECKS.due("cell", x.cell(2, to, 0), 0);
                boolean goes = from == to || to == 0 && from < 3 || from == 0 && to == 1;
                CHECKS.due("what is in " + from + " into " + to, x.copy(1, from, 0, 2, to, 0, 1), goes ? 1 : -5);
                CHECKS.due("sort", x.sort(2, to, 0), goes ? x.sort(1, from, 0) : 0);
            }
        }
    }

    private static void wholesThatGoRound() {
        CHECKS.says("0 TINY (whole numbers of 8 bits, with a sign), 1 SIGN (16, without), 2 SMALL (16, with), 3 WHOLE "
                + "(32), 4 LONG (64)",
                "of whole kinds its lowest bits;",
                "Whole to whole: the lowest bits;",
                "all are made that first",
                "+ - * / %: NUMBERS, giving their kind together: whole ones go round");
        long[] put = {0x123456789abcdef0L, -1, 0x8000, 0x80};
        long[][] lie = {{-16, 0xdef0, -8464, 0x9abcdef0, put[0]}, {-1, 0xffff, -1, -1, -1},
            {0, 0x8000, -0x8000, 0x8000, 0x8000}, {-0x80, 0x80, 0x80, 0x80, 0x80}};
        for (int i = 0; i < put.length; i++) {
            ColumnHouse x = new ColumnHouse();
            x.table(0, 1);
            for (int kind = 0; kind <= 4; kind++) {
                Checks.column(x, 0, kind, put[i]);
                CHECKS.due("put of kind " + kind, x.cell(0, kind, 0), lie[i][kind]);
            }
            String[] made = {"tiny", "sign", "small", "whole", "long"};
            for (int kind = 0; kind <= 4; kind++) {
                CHECKS.gives(x, "from t0 let " + made[kind] + "(e)", kind, lie[i][kind]);
                CHECKS.gives(x, "from t0 let " + (char) ('a' + kind) + " + 0", Math.max(kind, 3), lie[i][kind]);
            }
            CHECKS.gives(x, "from t0 let b * b * b", 3, (int) (lie[i][1] * lie[i][1] * lie[i][1]));
        }
    }

    private static void textsOfBytes() {
        CHECKS.says("3 of a text (v's bytes, the highest first, those that are 0 left out): 1.",
                "a text's bytes, the first one highest of as many as it has;",
                "TEXTS: ', 0 to 8 bytes but ', ';",
                "texts by bytes, no FAULTS but AWAY)");
        ColumnHouse x = new ColumnHouse();
        x.table(0, 4);
        int a = x.column(0, 10);
        x.box(0, a, 0, 3, 0x6100000000000062L);
        x.box(0, a, 1, 3, 0);
        x.box(0, a, 2, 3, Checks.text("abcdefgh"));
        x.box(0, a, 3, 3, 0xff00L);
        CHECKS.lies(x, 0, a, 0x6162, 0, Checks.text("abcdefgh"), 0xff);
        CHECKS.due("an empty text is no NOTHING", x.sort(0, a, 1), 3);
        CHECKS.gives(x, "from t0 let a = 'ab'", 7, 1, 0, 0, 0);
        CHECKS.gives(x, "from t0 let a = ''", 7, 0, 1, 0, 0);
        CHECKS.gives(x, "from t0 let a = 'abcdefgh'", 7, 0, 0, 1, 0);
        CHECKS.gives(x, "from t0 let a > '~~~~~~~~'", 7, 0, 0, 0, 1);
        CHECKS.gives(x, "from t0 let row sort a", 3, 1, 0, 2, 3);
        CHECKS.faultAt(x, "from t0 let a = 'abcdefghi'", 9, "'", NONE);
    }

    private static void bracketsOfAFold() {
        CHECKS.says("At most 20 ( and [ lie in one another",
                "fold = \"count\" | (\"sum\" | \"max\" | \"min\" | \"last\" | \"any\") \"(\" ex \")\".",
                "(the text's end, too; a byte that begins none; a number of them that is wrong, at the token by which "
                + "it is; a 21st, a 13th)");
        ColumnHouse x = house(1, 2);
        CHECKS.gives(x, "from t0 group: sum(" + "(".repeat(19) + "a" + ")".repeat(20), 4, 3);
        CHECKS.fault(x, "from t0 group: sum(" + "(".repeat(20) + "a" + ")".repeat(21), 9, 38, NONE);
        CHECKS.gives(x, "from t0 let " + "(".repeat(20) + "a" + ")".repeat(20), 3, 1, 2);
        CHECKS.fault(x, "from t0 let " + "(".repeat(21) + "a" + ")".repeat(21), 9, 32, NONE);
    }

    private static void letGoWhateverHappens() {
        CHECKS.says("what can't be done is a FAULT that a query may take up, or ends with, and what was taken for it "
                + "is let go whatever happens.",
                "2 * table, and 1 more when it was let go;");
        String[] ends = {"", "let a[0]", "keep p", "let 1 / 0", "let safe(1 / 0, 2)", "where a", "group: any(a)",
            "let len(list(0 - 1))", "let list(21)", "over t3 at 0", "into t4 over t4 at 9", "join t2 on a = b",
            "sort b"};
        for (String end : ends) {
            ColumnHouse x = house(1);
            x.table(2, 1);
            Checks.column(x, 2, 3, 1);
            int answer = Checks.ask(x, "from t0 join t2 on a = a into t1 over t1 at 0 " + end);
            CHECKS.due(end + ": fault(0)", x.fault(0), answer < 0 ? -answer : 0);
            int holds = 0;
            while (x.held(holds) != NONE && x.held(holds) % 2 == 0) {
                holds++;
            }
            CHECKS.holds(end + ": four or more are held", holds >= 4);
            for (int i = 0; i < holds; i++) {
                CHECKS.due(end + ": let go", x.held(holds + i), x.held(holds - 1 - i) + 1);
            }
            CHECKS.due(end + ": that is all", x.held(2 * holds), NONE);
            CHECKS.due(end + ": the next one is done", Checks.ask(x, "from t1"), 1);
        }
    }

    private static void takenUpAndEnded() {
        CHECKS.says("3 how many FAULTS safe() took up in it.",
                "2 its row (NONE for both without one).",
                "it is taken up: 200 of CREDIT (it is not taken up with less), and y.");
        ColumnHouse x = house(0, 1);
        int left = x.credit();
        CHECKS.fault(x, "from t0 let safe(p, 1) let safe(1 / a, 2 / a)", 6, 41, 0);
        CHECKS.due("fault(3)", x.fault(3), 2);
        CHECKS.due("2 for from, 200, 2 for 1, 2 + 2 for 1 / a, 200, 2 + 2 for 2 / a", left - x.credit(), 412);
        CHECKS.due("no RESULT came", x.size(6, 1), 0);
        CHECKS.fine(x, "from t0 let safe(safe(p, 1 / a), 7)", 2);
        CHECKS.due("fault(3)", x.fault(3), 2);
        CHECKS.cells(x, "y of the outer one", 1, 7, 7);
        CHECKS.fine(x, "from t0", 2);
        CHECKS.due("fault(3)", x.fault(3), 0);
    }

    private static void rowsThatAreMoved() {
        CHECKS.says("sort: the column (2); LISTS: 4; AWAY, with two rows or more: 1; then CREDIT",
                "1 at the first column that is AWAY, if a row is moved",
                "take CREDIT for all these together");
        for (int rows = 0; rows <= 2; rows++) {
            ColumnHouse x = house(new long[rows]);
            x.column(0, 8);
            x.away(0, 0, true);
            int left = x.credit();
            if (rows == 0) {
                CHECKS.fine(x, "from t0 sort a", 0);
            } else {
                CHECKS.fault(x, "from t0 sort a", 1, 8, NONE);
            }
            CHECKS.due(rows + " rows", left - x.credit(), rows == 1 ? 10 : 5 * rows);
            CHECKS.due("sort by what is there", Checks.ask(x, "from t0 sort b"), rows == 0 ? 0 : -1);
            CHECKS.due(rows + " rows", left - x.credit(), (rows == 1 ? 10 : 5 * rows) + 10 * rows);
        }
    }
}
