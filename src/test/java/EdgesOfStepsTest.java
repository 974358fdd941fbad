import java.util.function.Supplier;

/** Boundary cases of PART 3's steps and folds, and of promises 10 to 12 and 18, each beside its sentence. */
public final class EdgesOfStepsTest {
    private static final Checks CHECKS = new Checks("EdgesOfStepsTest");
    private static final long NAN = Checks.real(Double.NaN);

    public static void main(String[] args) {
        nineFaults();
        sixteenColumns();
        from();
        resultAndTables();
        heldAlsoWithAFault();
        creditOfSteps();
        creditWithoutRows();
        awayStays();
        awayIsMissed();
        creditAheadOfMoving();
        rowsBelowZero();
        where();
        let();
        keep();
        joinRefuses();
        joinKinds();
        joinPairs();
        joinSixtyFirst();
        joinAway();
        group();
        groupRows();
        groupRefuses();
        sortRefuses();
        first();
        into();
        over();
        overRefuses();
        stepsBehindOneAnother();
        placesAndRows();
        CHECKS.end();
    }

    /** Table 0: 3 rows, a of a kind, b WHOLEs 1 2 3. */
    private static ColumnHouse house(int kind) {
        ColumnHouse x = new ColumnHouse();
        x.table(0, 3);
        x.column(0, kind);
        Checks.column(x, 0, 3, 1, 2, 3);
        return x;
    }

    /** Table 0: n rows, a WHOLEs, all 0. */
    private static ColumnHouse rows(int n) {
        ColumnHouse x = new ColumnHouse();
        x.table(0, n);
        x.column(0, 3);
        return x;
    }

    private static void nineFaults() {
        CHECKS.says("FAULTS: 1 NOTHING, or AWAY, where something must be. 2 a place beyond. 3 a size below 0. 4 "
                + "another kind than it must be. 5 what doesn't go into such a column. 6 a whole number divided by 0. "
                + "7 no room. 8 no CREDIT. 9 a query that can't be read.");
        ColumnHouse x = house(8);
        x.table(1, 3);
        x.column(1, 3);
        CHECKS.fault(x, "from t0 let a + 1", 1, 14, 0);
        CHECKS.fault(x, "from t0 let list(1)[1]", 2, 19, 0);
        CHECKS.fault(x, "from t0 let list(0 - 1)", 3, 12, 0);
        CHECKS.fault(x, "from t0 let not b", 4, 12, -1);
        CHECKS.fault(x, "from t0 over t1 at 0", 5, 8, -1);
        CHECKS.fault(x, "from t0 let b % 0", 6, 14, 0);
        CHECKS.fault(x, "from t0 let list(21)", 7, 12, 0);
        CHECKS.fault(x, "from t0 let", 9, 11, -1);
        Checks.spendTo(x, 14);
        CHECKS.fault(x, "from t0", 8, 0, -1);
        CHECKS.fine(x, "from t1", 3);
    }

    private static void sixteenColumns() {
        CHECKS.says("a WORKING TABLE of ROWS and columns a, b, .. (at most 16)");
        ColumnHouse x = house(3);
        CHECKS.gives(x, "from t0" + " let b".repeat(14) + " keep p", 3, 1, 2, 3);
        CHECKS.fault(x, "from t0" + " let b".repeat(13) + " keep p", 2, 91, -1);
        CHECKS.fine(x, "from t0" + " let b".repeat(14), 3);
        CHECKS.due("sixteen", x.size(6, 1), 16);
        CHECKS.fault(x, "from t0" + " let b".repeat(15), 7, 92, -1);
        CHECKS.due("sixteen stay", x.size(6, 1), 16);
    }

    private static void from() {
        CHECKS.says("from: the table's columns, in their order, and ROWS.");
        ColumnHouse x = new ColumnHouse();
        x.table(0, 60);
        for (int kind = 0; kind < 8; kind++) {
            x.column(0, kind);
        }
        CHECKS.fine(x, "from t0", 60);
        CHECKS.due("eight columns", x.size(6, 1), 8);
        for (int kind = 0; kind < 8; kind++) {
            CHECKS.due("kind of column " + kind, x.kind(6, kind), kind);
        }
        CHECKS.fault(x, "from t0 let i", 2, 12, -1);
        x.table(1, 5);
        CHECKS.fine(x, "from t1", 5);
        CHECKS.due("rows without columns", x.size(6, 1), 0);
        CHECKS.gives(x, "from t1 let row", 3, 0, 1, 2, 3, 4);
        CHECKS.fine(x, "from t1 first 2", 2);
        CHECKS.gives(x, "from t1 group : count", 3, 5);
        x.table(1, 0);
        CHECKS.gives(x, "from t1 let row", 3);
    }

    private static void resultAndTables() {
        CHECKS.says("Behind the last step the WORKING TABLE is the RESULT (table 6); with a FAULT that stays as it "
                + "was. What was changed by into and over stays.");
        ColumnHouse x = house(3);
        x.table(2, 3);
        Checks.column(x, 2, 3, 7, 8, 9);
        CHECKS.gives(x, "from t0 first 2 let b * 10", 3, 10, 20);
        String[] faulty = {"from t0 first 1 let a / 0", "from t0 keep p", "from t0 into t1 where b", "from",
                "from t5 sort a"};
        for (String query : faulty) {
            CHECKS.holds(query, Checks.ask(x, query) < 0);
            CHECKS.cells(x, "the RESULT stays behind " + query, 2, 10, 20);
        }
        CHECKS.due("what into changed stays", x.size(1, 1), 2);
        CHECKS.fault(x, "from t0 keep b over t2 at 0 let a / 0", 6, 34, 0);
        CHECKS.due("what over changed stays", x.cell(2, 0, 2), 3);
        CHECKS.fault(x, "from t2 over t2 at 1", 2, 8, -1);
        CHECKS.cells(x, "the RESULT stays", 2, 10, 20);
        CHECKS.fine(x, "from t0", 3);
        x.put(0, 1, 0, 99);
        x.table(0, 1);
        CHECKS.cells(x, "a table's change doesn't change the RESULT", 1, 1, 2, 3);
    }

    private static void held(ColumnHouse x, String query, int fault, int... want) {
        CHECKS.due(query, Checks.ask(x, query), fault == 0 ? x.size(6, 0) : -fault);
        for (int i = 0; i <= want.length; i++) {
            CHECKS.due(query + " held(" + i + ")", x.held(i), i < want.length ? want[i] : -1);
        }
    }

    private static void heldAlsoWithAFault() {
        CHECKS.says("The table is HELD then; so is that of join, into, over, when its step begins; all are let go at "
                + "the end, the latest first, also when the query ends with a FAULT.");
        ColumnHouse x = house(3);
        x.table(1, -1);
        x.table(2, 0);
        held(x, "from t0 into t2", 0, 0, 4, 5, 1);
        held(x, "from t1", 3, 2, 3);
        held(x, "from t0 join t1 on a = a", 3, 0, 2, 3, 1);
        held(x, "from t0 over t1 at 0", 3, 0, 2, 3, 1);
        held(x, "from t0 join t2 on p = a", 2, 0, 4, 5, 1);
        held(x, "from t0 join t2 on a = p", 2, 0, 4, 5, 1);
        held(x, "from t0" + " let 1".repeat(7) + " into t2", 7, 0, 4, 5, 1);
        held(x, "from t0 first 9 keep p into t2", 2, 0, 1);
        held(x, "from t0 into t0 into t0 into t0", 0, 0, 0, 0, 0, 1, 1, 1, 1);
        held(x, "from t0 over t0 at 9", 2, 0, 0, 1, 1);
        Checks.spendTo(x, 5);
        held(x, "from t0", 8, 0, 1);
        ColumnHouse y = house(3);
        Checks.spendTo(y, 11);
        held(y, "from t0 into t2", 8, 0, 4, 5, 1);
    }

    /** A query with just enough CREDIT, and with one too little: 8 at a place, so much being left then. */
    private static void priced(Supplier<ColumnHouse> made, String query, int price, String step, int left) {
        ColumnHouse x = made.get();
        Checks.spendTo(x, price);
        CHECKS.holds(query + " with " + price, Checks.ask(x, query) >= 0);
        CHECKS.due(query + ": all is taken", x.credit(), 0);
        ColumnHouse y = made.get();
        Checks.spendTo(y, price - 1);
        CHECKS.fault(y, query, 8, query.lastIndexOf(step), -1);
        CHECKS.due(query + ": what is left", y.credit(), left);
        ColumnHouse z = made.get();
        CHECKS.takes(z, query, price);
    }

    private static void creditOfSteps() {
        CHECKS.says("STEPS THAT MAKE COLUMNS (from, where, join, group, sort, first, into) take CREDIT for all these "
                + "together, when their ROWS are known, ahead of making them: one for each ROW of each column, four "
                + "of kinds 8 to 11: 8 when there is not as much (nothing is taken then).");
        for (int kind = 0; kind <= 11; kind++) {
            int k = kind;
            int each = kind >= 8 ? 5 : 2;
            Supplier<ColumnHouse> made = () -> house(k);
            priced(made, "from t0", 3 * each, "from", 3 * each - 1);
            priced(made, "from t0 first 2", 5 * each, "first", 2 * each - 1);
            priced(made, "from t0 first 9", 6 * each, "first", 3 * each - 1);
            priced(made, "from t0 where b < 3", 5 * each + 6, "where", 2 * each - 1);
            priced(made, "from t0 sort b down", 6 * each, "sort", 3 * each - 1);
            priced(made, "from t0 into t1", 6 * each, "into", 3 * each - 1);
            priced(made, "from t0 join t0 on b = b", 9 * each, "join", 6 * each - 1);
            priced(made, "from t0 group b : last(a), count", 3 * each + 3 * (each + 1), "group", 3 * (each + 1) - 1);
            if (kind != 7 && kind < 8) {
                priced(made, "from t0 group : sum(a), max(a)", 3 * each + 2, "group", 1);
            }
        }
        CHECKS.takes(house(8), "from t0 keep a, a, b, a let a let b", 15);
        CHECKS.takes(house(8), "from t0 over t0 at 0", 15);
        CHECKS.takes(house(11), "from t0 group a : count", 15 + 5);
        CHECKS.takes(house(3), "from t0 group a : count", 6 + 2);
    }

    private static void creditWithoutRows() {
        CHECKS.says("one for each ROW of each column, four of kinds 8 to 11");
        ColumnHouse x = new ColumnHouse();
        Checks.spendTo(x, 0);
        x.table(0, 0);
        x.column(0, 11);
        x.column(0, 7);
        x.column(0, 3);
        CHECKS.fine(x, "from t0 where b sort c first 5 group a, c : last(a), any(b) into t1", 0);
        CHECKS.due("four columns", x.size(1, 1), 4);
        CHECKS.fine(x, "from t0 join t0 on c = c", 0);
        CHECKS.fine(x, "from t0 let nil let 'a' let list(9) let 1 / 0 keep a over t0 at 0", 0);
        x.table(2, 4);
        CHECKS.fine(x, "from t2 first 2", 2);
        CHECKS.due("none is left", x.credit(), 0);
    }

    private static void awayStays() {
        CHECKS.says("A column that is AWAY stays so by from and into;");
        for (int rows : new int[] {0, 1, 2}) {
            ColumnHouse x = new ColumnHouse();
            x.table(0, rows);
            x.column(0, 3);
            x.column(0, 8);
            x.away(0, 1, true);
            CHECKS.fine(x, "from t0 keep b, a into t1", rows);
            CHECKS.due("in the RESULT", x.kind(6, 0), 24);
            CHECKS.due("in the table", x.kind(1, 0), 24);
            CHECKS.due("the other is there", x.kind(6, 1), 3);
            CHECKS.due("the other is there", x.kind(1, 1), 3);
            CHECKS.due("it comes back", x.away(1, 0, false), 1);
            CHECKS.due("not in the RESULT", x.kind(6, 0), 24);
            CHECKS.due("not where it came from", x.kind(0, 1), 24);
        }
    }

    private static void awayIsMissed() {
        CHECKS.says("by where, join, group, sort, first it is moved row by row: 1 at the first column that is AWAY, "
                + "if a row is moved (columns in their order); what is made is not AWAY.");
        ColumnHouse x = new ColumnHouse();
        x.table(0, 2);
        Checks.column(x, 0, 3, 5, 6);
        x.column(0, 8);
        x.away(0, 1, true);
        x.table(1, 1);
        Checks.column(x, 1, 3, 6);
        x.column(1, 11);
        x.away(1, 1, true);
        String[] moved = {"where a = 5", "first 1", "sort a", "join t0 on a = a", "first 2"};
        for (String step : moved) {
            CHECKS.fault(x, "from t0 " + step, 1, 8, -1);
        }
        String[] none = {"where a = 9", "first 0", "first 0 sort a", "where a = 5 and a = 6",
                "where a > 6 join t1 on a = a"};
        for (String step : none) {
            CHECKS.fine(x, "from t0 " + step, 0);
            CHECKS.due("what is made is not AWAY", x.kind(6, 1), 8);
        }
        CHECKS.fault(x, "from t0 keep a join t1 on a = a", 1, 15, -1);
        CHECKS.fine(x, "from t0 keep a first 1 join t1 on a = a", 0);
        CHECKS.due("what is made is not AWAY", x.kind(6, 2), 11);
        CHECKS.gives(x, "from t0 keep a first 1 sort a where a = 5", 3, 5);
        CHECKS.gives(x, "from t0 group a : count", 3, 1, 1);
    }

    private static void creditAheadOfMoving() {
        CHECKS.says("take CREDIT for all these together, when their ROWS are known, ahead of making them");
        ColumnHouse x = house(8);
        x.away(0, 0, true);
        CHECKS.takes(x, "from t0 first 2", 15 + 10);
        CHECKS.due("1", x.fault(0), 1);
        CHECKS.takes(x, "from t0 where b = 1", 15 + 6 + 5);
        CHECKS.due("1", x.fault(0), 1);
        CHECKS.takes(x, "from t0 sort b", 15 + 15);
        CHECKS.due("1", x.fault(0), 1);
        CHECKS.takes(x, "from t0 join t0 on b = b", 15 + 30);
        CHECKS.due("1", x.fault(0), 1);
        CHECKS.takes(x, "from t0 sort a", 15);
        CHECKS.takes(x, "from t0 group a : count", 15);
        CHECKS.takes(x, "from t0 join t0 on a = b", 15);
        CHECKS.takes(x, "from t0 into t1", 30);
        ColumnHouse y = house(8);
        y.away(0, 0, true);
        Checks.spendTo(y, 15 + 9);
        CHECKS.fault(y, "from t0 first 2", 8, 8, -1);
    }

    private static void rowsBelowZero() {
        CHECKS.says("from, join, over: 3 when the table's ROWS are below 0.");
        ColumnHouse x = house(3);
        for (int rows : new int[] {-60, -1, 0, 1}) {
            x.table(1, rows);
            if (rows < 0) {
                CHECKS.fault(x, "from t1", 3, 0, -1);
                CHECKS.fault(x, "from t0 join t1 on p = p", 3, 8, -1);
                CHECKS.fault(x, "from t0 over t1 at 0", 3, 8, -1);
                CHECKS.fault(x, "from t5 over t1 at 0", 3, 8, -1);
            } else {
                CHECKS.fine(x, "from t1", rows);
                CHECKS.fault(x, "from t0 join t1 on a = a", 2, 23, -1);
                CHECKS.fault(x, "from t0 over t1 at 0", 2, 8, -1);
            }
        }
        x.table(1, -60);
        CHECKS.fine(x, "from t0 into t1", 3);
        CHECKS.due("the table has its rows", x.size(1, 0), 3);
    }

    private static void where() {
        CHECKS.says("where: ex is FLAGS (else 4; AWAY, when there are rows: 1, row 0): rows that are true stay.");
        for (int kind = 0; kind <= 11; kind++) {
            for (int rows : new int[] {0, 1, 60}) {
                ColumnHouse x = new ColumnHouse();
                x.table(0, rows);
                x.column(0, kind);
                if (kind == 7) {
                    CHECKS.fine(x, "from t0 where a", 0);
                    CHECKS.fine(x, "from t0 where not a", rows);
                } else {
                    CHECKS.fault(x, "from t0 where a", 4, 8, -1);
                }
                x.away(0, 0, true);
                if (kind != 7) {
                    CHECKS.fault(x, "from t0 where a", 4, 8, -1);
                } else if (rows > 0) {
                    CHECKS.fault(x, "from t0 where a", 1, 8, 0);
                } else {
                    CHECKS.fine(x, "from t0 where a", 0);
                }
            }
        }
        ColumnHouse x = house(3);
        CHECKS.gives(x, "from t0 where row = 0", 3, 1);
        CHECKS.gives(x, "from t0 where row = 2", 3, 3);
        CHECKS.gives(x, "from t0 where row # 1", 3, 1, 3);
        CHECKS.gives(x, "from t0 where b > 3", 3);
        CHECKS.gives(x, "from t0 where b > 3 where b < 9", 3);
    }

    private static void let() {
        CHECKS.says("let: 7 if there are 16 (ahead of ex): ex is one column more (AWAY, if it is a column by itself "
                + "that is).");
        ColumnHouse x = house(3);
        String fifteen = "from t0" + " let 1".repeat(13);
        CHECKS.fine(x, fifteen + " let b", 3);
        CHECKS.fault(x, fifteen + " let p", 2, fifteen.length() + 5, -1);
        CHECKS.fault(x, fifteen + " let 1 let b", 7, fifteen.length() + 7, -1);
        CHECKS.fault(x, fifteen + " let 1 let a / 0", 7, fifteen.length() + 7, -1);
        CHECKS.takes(x, fifteen + " let 1 let a / 0", 6 + 14 * 3);
        CHECKS.fine(x, fifteen + " let 1 keep a let a", 3);
        x.away(0, 1, true);
        CHECKS.gives(x, "from t0 let b", 19, 1, 2, 3);
        CHECKS.gives(x, "from t0 let ((b))", 19, 1, 2, 3);
        CHECKS.gives(x, "from t0 let safe(b, a)", 19, 1, 2, 3);
        CHECKS.gives(x, "from t0 let safe(p, b)", 19, 1, 2, 3);
        CHECKS.fault(x, "from t0 let -b", 1, 12, 0);
        CHECKS.gives(x, "from t0 let a", 3, 0, 0, 0);
    }

    private static void keep() {
        CHECKS.says("keep: these columns alone (2), in this order (one may come twice; 7 for more than 16).");
        ColumnHouse x = house(3);
        CHECKS.fine(x, "from t0 keep b, a", 3);
        CHECKS.cells(x, "the first", 0, 1, 2, 3);
        CHECKS.cells(x, "the second", 1, 0, 0, 0);
        CHECKS.due("these alone", x.size(6, 1), 2);
        CHECKS.gives(x, "from t0 keep b, b, b", 3, 1, 2, 3);
        CHECKS.due("thrice", x.size(6, 1), 3);
        CHECKS.fault(x, "from t0 keep c", 2, 13, -1);
        CHECKS.fault(x, "from t0 keep a, b, c, p", 2, 19, -1);
        CHECKS.fault(x, "from t5 keep a", 2, 13, -1);
        CHECKS.gives(x, "from t0 keep a" + ",b".repeat(15), 3, 1, 2, 3);
        CHECKS.due("sixteen", x.size(6, 1), 16);
        CHECKS.fault(x, "from t0 keep a" + ",b".repeat(16), 7, 8, -1);
        CHECKS.fault(x, "from t0 keep a" + ",b".repeat(60), 7, 8, -1);
        CHECKS.fault(x, "from t0 keep b keep b", 2, 20, -1);
        CHECKS.gives(x, "from t0 keep b, a keep a", 3, 1, 2, 3);
        CHECKS.due("these alone", x.size(6, 1), 1);
    }

    private static void joinRefuses() {
        CHECKS.says("join: the columns (2; the first of the WORKING TABLE, the second of the other one); 4 when = "
                + "can't take both; 7 when there would be more than 16;");
        ColumnHouse x = house(3);
        x.table(1, 1);
        for (int c = 0; c < 8; c++) {
            x.column(1, c == 7 ? 7 : 3);
        }
        CHECKS.fault(x, "from t0 join t1 on c = a", 2, 19, -1);
        CHECKS.fault(x, "from t0 join t1 on c = i", 2, 19, -1);
        CHECKS.fault(x, "from t0 join t1 on a = i", 2, 23, -1);
        CHECKS.fault(x, "from t1 join t0 on h = c", 2, 23, -1);
        CHECKS.fault(x, "from t0 join t1 on a = h", 4, 8, -1);
        CHECKS.fine(x, "from t1 join t1 on a = a", 1);
        CHECKS.due("sixteen", x.size(6, 1), 16);
        CHECKS.fault(x, "from t1 let 1 join t1 on a = a", 7, 14, -1);
        CHECKS.fault(x, "from t1 let 1 join t1 on a = h", 4, 14, -1);
        CHECKS.fault(x, "from t1 let 1 join t1 on a = i", 2, 29, -1);
        CHECKS.fault(x, "from t1 let 1 join t1 on b = a", 7, 14, -1);
        x.away(1, 0, true);
        CHECKS.fault(x, "from t1 let 1 join t1 on a = a", 7, 14, -1);
        CHECKS.fault(x, "from t1 join t1 on a = h", 4, 8, -1);
        CHECKS.fault(x, "from t1 join t1 on a = b", 1, 8, -1);
    }

    private static boolean canBeLike(int one, int other) {
        boolean numbers = one != 7 && one != 11 && other != 7 && other != 11;
        return numbers || one == other;
    }

    private static void joinKinds() {
        CHECKS.says("4 when = can't take both;");
        CHECKS.says("= #: both of kinds 0 to 6 (their kind together; a NaN is like nothing, 0 is like -0); both "
                + "FLAGS; both LISTS");
        for (int one = 0; one <= 11; one++) {
            ColumnHouse x = new ColumnHouse();
            x.table(0, 0);
            x.column(0, one);
            for (int other = 0; other <= 11; other++) {
                x.table(1, 0);
                x.column(1, other);
                int due = canBeLike(one, other) ? 0 : -4;
                CHECKS.due("kinds " + one + ", " + other, Checks.ask(x, "from t0 join t1 on a = a"), due);
            }
        }
    }

    private static void joinPairs() {
        CHECKS.says("then all pairs of a row of the WORKING TABLE and one of the other table, by the one, then the "
                + "other, that are =: both rows' columns behind one another;");
        ColumnHouse x = new ColumnHouse();
        x.table(0, 4);
        Checks.column(x, 0, 3, 1, 2, 1, 3);
        x.table(1, 3);
        Checks.column(x, 1, 4, 1, 4, 1);
        Checks.column(x, 1, 3, 10, 11, 12);
        CHECKS.gives(x, "from t0 let row join t1 on a = a let row", 3, 0, 1, 2, 3);
        CHECKS.cells(x, "by the one", 1, 0, 0, 2, 2);
        CHECKS.cells(x, "then the other", 3, 10, 12, 10, 12);
        CHECKS.cells(x, "both are =", 2, 1, 1, 1, 1);
        CHECKS.fine(x, "from t1 let row join t0 on a = a", 4);
        CHECKS.cells(x, "by the one", 2, 0, 0, 2, 2);
        x.table(2, 4);
        Checks.column(x, 2, 6, NAN, Checks.real(-0.0), Checks.real(0.0), NAN);
        CHECKS.fine(x, "from t2 let row join t2 on a = a", 4);
        CHECKS.cells(x, "0 is like -0, a NaN like nothing", 1, 1, 1, 2, 2);
        x.table(3, 4);
        Checks.boxes(x, 3, 8, null, 0, "", Double.NaN);
        CHECKS.fine(x, "from t3 let row join t3 on a = a", 3);
        CHECKS.cells(x, "NOTHING like NOTHING", 1, 0, 1, 2);
        CHECKS.fine(x, "from t3 let row join t2 on a = a", 2);
        CHECKS.cells(x, "numbers as REALs", 1, 1, 1);
        x.table(4, 0);
        x.column(4, 3);
        CHECKS.fine(x, "from t0 join t4 on a = a", 0);
        CHECKS.due("both columns", x.size(6, 1), 2);
        CHECKS.fine(x, "from t4 join t0 on a = a", 0);
        CHECKS.due("both columns", x.size(6, 1), 2);
        CHECKS.fine(x, "from t0 where a = 2 join t1 on a = a", 0);
    }

    /** Table 0: 7 ones and so many twos; table 1: 8 ones and one two. */
    private static ColumnHouse pairs(int twos) {
        ColumnHouse x = new ColumnHouse();
        x.table(0, 7 + twos);
        x.column(0, 3);
        for (int r = 0; r < 7 + twos; r++) {
            x.put(0, 0, r, r < 7 ? 1 : 2);
        }
        x.table(1, 9);
        x.column(1, 3);
        for (int r = 0; r < 9; r++) {
            x.put(1, 0, r, r < 8 ? 1 : 2);
        }
        return x;
    }

    private static void joinSixtyFirst() {
        CHECKS.says("the 61st pair: 7; then CREDIT.");
        CHECKS.fine(pairs(3), "from t0 join t1 on a = a", 59);
        CHECKS.fine(pairs(4), "from t0 join t1 on a = a", 60);
        CHECKS.fault(pairs(5), "from t0 join t1 on a = a", 7, 8, -1);
        CHECKS.fault(pairs(6), "from t0 join t1 on a = a", 7, 8, -1);
        CHECKS.takes(pairs(4), "from t0 join t1 on a = a", 11 + 120);
        CHECKS.takes(pairs(5), "from t0 join t1 on a = a", 12);
        ColumnHouse x = pairs(5);
        Checks.spendTo(x, 12);
        CHECKS.fault(x, "from t0 join t1 on a = a", 7, 8, -1);
        ColumnHouse y = pairs(4);
        Checks.spendTo(y, 11 + 119);
        CHECKS.fault(y, "from t0 join t1 on a = a", 8, 8, -1);
        ColumnHouse z = pairs(5);
        z.column(1, 3);
        z.away(1, 1, true);
        CHECKS.fault(z, "from t0 join t1 on a = a", 7, 8, -1);
        ColumnHouse all = rows(60);
        CHECKS.fault(all, "from t0 join t0 on a = a", 7, 8, -1);
        CHECKS.fine(all, "from t0 first 1 join t0 on a = a", 60);
        CHECKS.fine(all, "from t0 let row join t0 on b = a", 60);
    }

    private static void joinAway() {
        CHECKS.says("looking at one that is AWAY (the first ahead): 1;");
        ColumnHouse x = pairs(1);
        x.away(0, 0, true);
        CHECKS.fault(x, "from t0 join t1 on a = a", 1, 8, -1);
        CHECKS.fault(x, "from t1 join t0 on a = a", 1, 8, -1);
        CHECKS.fault(x, "from t0 join t0 on a = a", 1, 8, -1);
        CHECKS.takes(x, "from t0 join t1 on a = a", 8);
        CHECKS.fault(pairsAway(5), "from t0 join t1 on a = a", 1, 8, -1);
        ColumnHouse one = rows(1);
        one.table(1, 1);
        Checks.column(one, 1, 3, 5);
        CHECKS.fine(one, "from t0 join t1 on a = a", 0);
        one.away(1, 0, true);
        CHECKS.fault(one, "from t0 join t1 on a = a", 1, 8, -1);
        CHECKS.fault(one, "from t1 join t0 on a = a", 1, 8, -1);
        CHECKS.fine(one, "from t0 join t0 on a = a", 1);
        CHECKS.fine(one, "from t0 first 0 join t1 on a = a", 0);
        x.table(2, 0);
        x.column(2, 3);
        x.away(2, 0, true);
        CHECKS.fine(x, "from t2 join t2 on a = a", 0);
        CHECKS.due("what is made is not AWAY", x.kind(6, 0), 3);
        CHECKS.due("what is made is not AWAY", x.kind(6, 1), 3);
    }

    private static ColumnHouse pairsAway(int twos) {
        ColumnHouse x = pairs(twos);
        x.away(1, 0, true);
        return x;
    }

    private static void group() {
        CHECKS.says("without columns one for all rows, none when there are none;");
        for (int rows : new int[] {0, 1, 2, 60}) {
            ColumnHouse x = rows(rows);
            CHECKS.fine(x, "from t0 group : count", Math.min(rows, 1));
            CHECKS.due("all rows", x.cell(6, 0, 0), rows);
            CHECKS.due("the fold alone", x.size(6, 1), 1);
            CHECKS.fine(x, "from t0 group a : count", Math.min(rows, 1));
            CHECKS.due("all rows", x.cell(6, 1, 0), rows);
            CHECKS.fine(x, "from t0 let row group b : count", rows);
        }
        CHECKS.says("one row: these columns, then the folds");
        ColumnHouse x = house(3);
        CHECKS.fine(x, "from t0 group b, a, b : sum(b), count", 3);
        CHECKS.due("columns", x.size(6, 1), 5);
        CHECKS.cells(x, "b", 0, 1, 2, 3);
        CHECKS.cells(x, "a", 1, 0, 0, 0);
        CHECKS.cells(x, "b again", 2, 1, 2, 3);
        CHECKS.cells(x, "sum", 3, 1, 2, 3);
        CHECKS.says("7 for more than 16 columns; then CREDIT, then the columns.");
        String fifteen = "from t0 group a : count" + ",count".repeat(13);
        CHECKS.fine(x, fifteen, 1);
        CHECKS.due("fifteen", x.size(6, 1), 15);
        CHECKS.fine(x, fifteen + ",count", 1);
        CHECKS.due("sixteen", x.size(6, 1), 16);
        CHECKS.fault(x, fifteen + ",count,count", 7, 8, -1);
        CHECKS.fault(x, fifteen + ",count,any(a)", 4, fifteen.length() + 7, -1);
        CHECKS.takes(x, fifteen + ",count,count", 6);
        CHECKS.fine(x, "from t0 group " + "a,".repeat(14) + "a : count", 1);
        CHECKS.fault(x, "from t0 group " + "a,".repeat(15) + "a : count", 7, 8, -1);
        CHECKS.fine(x, "from t0 group : count" + ",count".repeat(15), 1);
        CHECKS.fault(x, "from t0 group : count" + ",count".repeat(16), 7, 8, -1);
    }

    private static void groupRows() {
        CHECKS.says("for each different row of these (= or both NOTHING; in the order in which they come first;");
        ColumnHouse x = new ColumnHouse();
        x.table(0, 6);
        Checks.column(x, 0, 3, 3, 1, 3, 2, 1, 3);
        Checks.column(x, 0, 5, Checks.single(Float.NaN), 0, Checks.single(Float.NaN), Checks.single(-0f), 1,
                0xffffffffL);
        Checks.boxes(x, 0, 8, null, 0, "", null, 0.0, "");
        Checks.lists(x, 0, null, new int[0], null, new int[1], new int[0], new int[] {0});
        Checks.column(x, 0, 7, 1, 0, 0, 1, 1, 0);
        CHECKS.gives(x, "from t0 group a : count", 3, 3, 2, 1);
        CHECKS.cells(x, "in their order", 0, 3, 1, 2);
        CHECKS.gives(x, "from t0 group b : count", 3, 3, 2, 1);
        CHECKS.cells(x, "NaNs are NOTHING, 0 is like -0", 0, Checks.single(Float.NaN), 0, 1);
        CHECKS.gives(x, "from t0 group c : count", 3, 2, 2, 2);
        CHECKS.gives(x, "from t0 group d : count", 3, 2, 2, 2);
        CHECKS.gives(x, "from t0 group e : count", 3, 3, 3);
        CHECKS.gives(x, "from t0 group a, e : count", 3, 1, 1, 2, 1, 1);
        CHECKS.gives(x, "from t0 group a : last(row)", 3, 5, 4, 3);
        x.table(1, 60);
        x.column(1, 3);
        CHECKS.gives(x, "from t1 group a : count", 3, 60);
        CHECKS.fine(x, "from t1 let row group b : last(b)", 60);
        CHECKS.due("the last group", x.cell(6, 1, 59), 59);
    }

    private static void groupRefuses() {
        CHECKS.says("group: columns (2);");
        ColumnHouse x = house(3);
        CHECKS.fault(x, "from t0 group c : count", 2, 14, -1);
        CHECKS.fault(x, "from t0 group a, b, c, d : sum(p)", 2, 20, -1);
        CHECKS.says("AWAY, when there are rows: 1)");
        x.away(0, 0, true);
        CHECKS.fault(x, "from t0 group a : count", 1, 8, -1);
        CHECKS.fault(x, "from t0 group b, a : sum(p)", 1, 8, -1);
        CHECKS.fault(x, "from t0 group a, c : count", 2, 17, -1);
        CHECKS.gives(x, "from t0 group b : count", 3, 1, 1, 1);
        ColumnHouse one = rows(1);
        one.away(0, 0, true);
        CHECKS.fault(one, "from t0 group a : count", 1, 8, -1);
        x.table(1, 0);
        x.column(1, 3);
        x.away(1, 0, true);
        CHECKS.fine(x, "from t1 group a : count", 0);
        CHECKS.due("what is made is not AWAY", x.kind(6, 0), 3);
        CHECKS.says("fold by fold its ex for all rows, then its FAULTS;");
        CHECKS.fault(x, "from t0 group : sum(b / 0), sum(p)", 6, 22, 0);
        CHECKS.fault(x, "from t0 group : any(b), sum(p)", 4, 16, -1);
        CHECKS.fault(x, "from t0 group : sum(p), any(b)", 2, 20, -1);
        CHECKS.fault(x, "from t0 group : sum(a), sum(p)", 1, 16, 0);
        CHECKS.fault(x, "from t0 group : sum(b), sum(p)", 2, 28, -1);
        CHECKS.fault(x, "from t0 group b : sum(6 / (b - 2))", 6, 24, 1);
        CHECKS.takes(x, "from t0 group : sum(-b), any(b)", 6 + 3);
    }

    private static void sortRefuses() {
        CHECKS.says("sort: the column (2); LISTS: 4; AWAY, with two rows or more: 1; then CREDIT: upwards, or down;");
        for (int rows : new int[] {0, 1, 2, 60}) {
            ColumnHouse x = rows(rows);
            x.column(0, 11);
            CHECKS.fault(x, "from t0 sort c", 2, 13, -1);
            CHECKS.fault(x, "from t0 sort b", 4, 8, -1);
            CHECKS.fine(x, "from t0 sort a", rows);
            x.away(0, 1, true);
            CHECKS.fault(x, "from t0 sort b", 4, 8, -1);
            x.away(0, 1, false);
            x.away(0, 0, true);
            if (rows == 0) {
                CHECKS.fine(x, "from t0 sort a", 0);
                CHECKS.due("what is made is not AWAY", x.kind(6, 0), 3);
            } else {
                CHECKS.fault(x, "from t0 sort a", 1, 8, -1);
                CHECKS.takes(x, "from t0 sort a", rows * 5 * (rows == 1 ? 2 : 1));
            }
        }
        ColumnHouse y = rows(2);
        y.away(0, 0, true);
        Checks.spendTo(y, 2);
        CHECKS.fault(y, "from t0 sort a", 1, 8, -1);
        ColumnHouse z = rows(1);
        z.away(0, 0, true);
        Checks.spendTo(z, 1);
        CHECKS.fault(z, "from t0 sort a", 8, 8, -1);
    }

    private static void first() {
        CHECKS.says("first: at most so many rows.");
        for (int rows : new int[] {0, 1, 3, 60}) {
            ColumnHouse x = rows(rows);
            for (int n : new int[] {0, 1, 2, 3, 4, 59, 60, 61, 999999999}) {
                CHECKS.fine(x, "from t0 first " + n, Math.min(n, rows));
            }
        }
        CHECKS.gives(house(3), "from t0 first 2", 3, 1, 2);
    }

    private static void into() {
        CHECKS.says("into: 7 for more than 8 columns; the table becomes the WORKING TABLE.");
        ColumnHouse x = house(3);
        x.table(1, 5);
        x.column(1, 4);
        CHECKS.fine(x, "from t0" + " let b".repeat(6) + " into t1", 3);
        CHECKS.due("eight", x.size(1, 1), 8);
        CHECKS.due("its rows", x.size(1, 0), 3);
        CHECKS.due("the last", x.cell(1, 7, 2), 3);
        CHECKS.due("a ninth", x.column(1, 3), -7);
        CHECKS.fault(x, "from t0" + " let b".repeat(7) + " into t0", 7, 50, -1);
        CHECKS.due("nothing changed", x.size(0, 1), 2);
        CHECKS.takes(x, "from t0" + " let b".repeat(7) + " into t0", 6);
        CHECKS.fine(x, "from t0 keep a, b into t0 let 1 into t0 let 1", 3);
        CHECKS.due("its own table", x.size(0, 1), 3);
        CHECKS.due("the query goes on", x.size(6, 1), 4);
        x.table(2, 0);
        CHECKS.fine(x, "from t2 into t1", 0);
        CHECKS.due("no rows", x.size(1, 0), 0);
        CHECKS.due("no columns", x.size(1, 1), 0);
        ColumnHouse y = house(8);
        Checks.spendTo(y, 15 + 14);
        CHECKS.fault(y, "from t0 into t1", 8, 8, -1);
        CHECKS.due("the table stays", y.size(1, 1), 0);
        CHECKS.due("7 ahead of 8", Checks.ask(y, "from t1" + " let row".repeat(9) + " into t1"), -7);
    }

    private static void over() {
        CHECKS.says("over: for each column of the WORKING TABLE, in order: the table's column of the same number (2 "
                + "without one): COPY (PART 4) of all ROWS from 0 on to the place that is told;");
        ColumnHouse x = house(3);
        x.table(1, 5);
        Checks.column(x, 1, 3, 11, 12, 13, 14, 15);
        CHECKS.fine(x, "from t0 keep b over t1 at 0", 3);
        cells(x, 1, 0, 1, 2, 3, 14, 15);
        CHECKS.fine(x, "from t0 keep b over t1 at 2", 3);
        cells(x, 1, 0, 1, 2, 1, 2, 3);
        for (int at : new int[] {3, 4, 5, 6, 60, 999999999}) {
            CHECKS.fault(x, "from t0 keep b over t1 at " + at, 2, 15, -1);
        }
        CHECKS.fine(x, "from t0 first 0 keep b over t1 at 5", 0);
        CHECKS.fault(x, "from t0 first 0 keep b over t1 at 6", 2, 23, -1);
        CHECKS.fine(x, "from t0 first 1 keep b over t1 at 4", 1);
        cells(x, 1, 0, 1, 2, 1, 2, 1);
        x.table(2, 9);
        CHECKS.fine(x, "from t2 over t1 at 999999999", 9);
        CHECKS.takes(x, "from t0 keep b over t1 at 0", 6);
    }

    private static void cells(ColumnHouse x, int table, int column, long... want) {
        for (int r = 0; r < want.length; r++) {
            CHECKS.due("cell(" + table + ", " + column + ", " + r + ")", x.cell(table, column, r), want[r]);
        }
    }

    private static void overRefuses() {
        CHECKS.says("its FAULT ends the query (of 5 by an element: its row); what was copied stays.");
        ColumnHouse x = house(3);
        x.table(1, 3);
        x.column(1, 3);
        CHECKS.fault(x, "from t0 keep b, b over t1 at 0", 2, 18, -1);
        cells(x, 1, 0, 1, 2, 3);
        x.column(1, 4);
        CHECKS.fault(x, "from t0 let b + 1 keep c, b over t1 at 0", 5, 28, -1);
        cells(x, 1, 0, 2, 3, 4);
        cells(x, 1, 1, 0, 0, 0);
        x.table(2, 3);
        for (int c = 0; c < 8; c++) {
            x.column(2, 3);
        }
        CHECKS.fine(x, "from t0 keep b" + ",b".repeat(7) + " over t2 at 0", 3);
        cells(x, 2, 7, 1, 2, 3);
        CHECKS.fault(x, "from t0 let 9 keep c" + ",c".repeat(8) + " over t2 at 0", 2, 37, -1);
        cells(x, 2, 7, 9, 9, 9);
        x.away(2, 1, true);
        CHECKS.fault(x, "from t0 keep b, b over t2 at 0", 1, 18, -1);
        cells(x, 2, 0, 1, 2, 3);
        x.away(0, 0, true);
        CHECKS.fault(x, "from t0 keep a over t2 at 0", 1, 15, -1);
        CHECKS.fault(x, "from t0 keep a over t2 at 9", 1, 15, -1);
        x.table(3, 3);
        Checks.boxes(x, 3, 8, 1, "t", 2);
        x.table(4, 5);
        Checks.boxes(x, 4, 9, null, 7, 7, 7, 7);
        CHECKS.fault(x, "from t3 over t4 at 2", 5, 8, 1);
        cells(x, 4, 0, 0, 7, 1, 7, 7);
        CHECKS.fault(x, "from t3 let row sort b down keep a over t4 at 0", 5, 35, 1);
        cells(x, 4, 0, 2, 7, 1, 7, 7);
    }

    private static void stepsBehindOneAnother() {
        CHECKS.says("A QUERY is done step by step on a WORKING TABLE");
        ColumnHouse x = new ColumnHouse();
        x.table(0, 3);
        Checks.column(x, 0, 3, 3, 1, 2);
        Checks.column(x, 0, 3, 1, 1, 2);
        CHECKS.gives(x, "from t0 sort a sort b sort a down", 3, 1, 2, 1);
        CHECKS.cells(x, "sorted", 0, 3, 2, 1);
        CHECKS.gives(x, "from t0 keep a, b keep b, a group a : last(b)", 3, 1, 2);
        CHECKS.due("two columns", x.size(6, 1), 2);
        CHECKS.gives(x, "from t0 sort a join t0 on a = a keep c, d, b keep c", 3, 1, 2, 1);
        CHECKS.due("one column", x.size(6, 1), 1);
        CHECKS.gives(x, "from t0 join t0 on a = a join t0 on b = b keep a, f sort b", 3, 1, 1, 1, 1, 2);
        CHECKS.due("two columns", x.size(6, 1), 2);
        CHECKS.gives(x, "from t0 group b : count group b : count, sum(a)", 4, 1, 2);
        CHECKS.due("three columns", x.size(6, 1), 3);
        CHECKS.gives(x, "from t0 group b : count sort b keep a join t0 on a = b keep b", 3, 2, 3, 1);
        CHECKS.fault(x, "from t0 keep a keep c", 2, 20, -1);
        CHECKS.gives(x, "from t0 keep b", 3, 1, 1, 2);
        CHECKS.due("one column", x.size(6, 1), 1);
        CHECKS.fault(x, "from t0 join t0 on b = p", 2, 23, -1);
        CHECKS.fine(x, "from t0 join t0 on a = a", 3);
        CHECKS.fault(x, "from t0 group a, b, c : count", 2, 20, -1);
        CHECKS.gives(x, "from t0 group b : count", 3, 2, 1);
        CHECKS.due("two columns", x.size(6, 1), 2);
    }

    private static void placesAndRows() {
        CHECKS.says("A FAULT has a place (of a step: its first word; of what is in an ex: the operator's, function's, "
                + "[ 's, constant's first byte; a column that there is not: 2, at its letter; a fold: its word) and a "
                + "row (NONE where none is told).");
        ColumnHouse x = house(11);
        CHECKS.fault(x, "from t0  where b", 4, 9, -1);
        CHECKS.fault(x, "from t0 let b  /  0", 6, 15, 0);
        CHECKS.fault(x, "from t0 let b <= a", 4, 14, -1);
        CHECKS.fault(x, "from t0 let   len(a)", 1, 14, 0);
        CHECKS.fault(x, "from t0 let a [ 0 ]", 1, 14, 0);
        CHECKS.fault(x, "from t0 let list(2)[row]", 2, 19, 2);
        CHECKS.fault(x, "from t0 let 1 + c", 2, 16, -1);
        CHECKS.fault(x, "from t0 keep a,   c", 2, 18, -1);
        CHECKS.fault(x, "from t0 group : count, sum( a )", 4, 23, -1);
        CHECKS.fault(x, "from t0 let - a", 4, 12, -1);
        CHECKS.fault(x, "from t0 let 1 - - a", 4, 16, -1);
        CHECKS.fault(x, "from t0 let not not b", 4, 16, -1);
        CHECKS.fault(x, "from t0 let if (b, a, a)", 4, 12, -1);
        Supplier<ColumnHouse> made = () -> house(11);
        priced(made, "from t0 let 7", 18, "7", 2);
        priced(made, "from t0 let 'abc'", 27, "'abc", 11);
        priced(made, "from t0 let nil", 27, "nil", 11);
        priced(made, "from t0 let row", 18, "row", 2);
        priced(made, "from t0 let b + b", 18, "+", 2);
        priced(made, "from t0 let - b", 18, "-", 2);
        priced(made, "from t0 let missing(a)", 18, "missing", 2);
    }
}
