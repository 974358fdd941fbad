/** Promises 9 to 12: the tape, asking, FAULTS and what is held; and the grammar of queries. */
public final class QueriesTest {
    private static final Checks CHECKS = new Checks("QueriesTest");

    public static void main(String[] args) {
        tape();
        bytesOfTheTape();
        bytesThatNoQueryHas();
        asking();
        tokens();
        grammar();
        limits();
        numbers();
        holding();
        faultsStay();
        CHECKS.end();
    }

    private static ColumnHouse house() {
        ColumnHouse x = new ColumnHouse();
        x.table(0, 3);
        Checks.column(x, 0, 3, 5, 7, 9);
        Checks.column(x, 0, 7, 1, 0, 1);
        return x;
    }

    private static void tape() {
        ColumnHouse x = new ColumnHouse();
        CHECKS.due("twenty bytes", Checks.feed(x, "abcdefghijklmnopqrst"), 20);
        CHECKS.due("two letters", x.feed(0x61000000, 0, 0x62, 0, 0), 40);
        CHECKS.due("zeros", x.feed(0, 0, 0, 0, 0), 60);
        CHECKS.due("bytes that no query has", x.feed(-1, 0x01ff801f, 0x7f207e0a, 0, 32), 80);
        for (int n = 100; n <= 300; n += 20) {
            CHECKS.due("more", Checks.feed(x, "abcdefghijklmnopqrst"), n);
        }
        CHECKS.due("too many", Checks.feed(x, "a"), -1);
        CHECKS.due("zeros are too many, too", x.feed(0, 0, 0, 0, 0), -1);
        CHECKS.due("more than there are", x.ask(301), -10);
        CHECKS.due("ask of all", x.ask(300), -9);
        CHECKS.due("the tape is empty", x.feed(0x61, 0, 0, 0, 0), 20);
        x = new ColumnHouse();
        CHECKS.due("zeros on a new tape", x.feed(0, 0, 0, 0, 0), 20);
        x = new ColumnHouse();
        CHECKS.due("any bytes on a new tape", x.feed(-1, 16909060, 2139062143, 32, 0), 20);
    }

    /** Every byte of the tape has its place, the highest of each int first. */
    private static void bytesOfTheTape() {
        ColumnHouse x = house();
        x.feed(0x66726f6d, 0x20743020, 0x66697273, 0x74203120, 0x6c657420);
        x.feed(0x277a7978, 0x77767574, 0x73270000, 0, 0);
        CHECKS.due("from t0 first 1 let 'zyxwvuts'", x.ask(30), 1);
        CHECKS.due("its text", x.cell(6, 2, 0), Checks.text("zyxwvuts"));
        for (int b = 0; b < 256; b++) {
            x = b % 64 == 0 ? house() : x;
            boolean isBlank = b == ' ';
            String query = "from t0 " + (char) b;
            CHECKS.fault(x, query + "!", 9, isBlank ? 9 : 8, -1);
        }
    }

    /** What can't stand in a query is FAULT 9 where it lies among the n bytes, nothing behind them. */
    private static void bytesThatNoQueryHas() {
        int[] bytes = {0, 1, 10, 31, 127, 128, 160, 225, 244, 255};
        for (int b : bytes) {
            ColumnHouse x = house();
            char c = (char) b;
            CHECKS.fault(x, "from t0" + c, 9, 7, -1);
            CHECKS.fault(x, "from t0 " + c, 9, 8, -1);
            CHECKS.fault(x, c + "from t0", 9, 0, -1);
            CHECKS.fault(x, "from" + c + "t0", 9, 4, -1);
            CHECKS.fault(x, "from t0 let 1" + c, 9, 13, -1);
            CHECKS.fault(x, "from t0 let 1." + c, 9, 13, -1);
            CHECKS.fault(x, "from t0 let a <" + c + "= a", 9, 15, -1);
            CHECKS.fault(x, "from t0 let 'a" + c + "b'", 9, 12, -1);
            CHECKS.fault(x, "from t0 let 'abcdefgh" + c + "'", 9, 12, -1);
            CHECKS.fault(x, "from t0 let 'abc" + c, 9, 12, -1);
            CHECKS.fault(x, "from t0 rubbish" + c, 9, 8, -1);
            Checks.feed(x, "from t0" + c + c + c);
            CHECKS.due("behind the n bytes", x.ask(7), 3);
        }
    }

    private static void asking() {
        ColumnHouse x = house();
        CHECKS.due("ask(1) of nothing", x.ask(1), -10);
        CHECKS.due("ask(-1)", x.ask(-1), -10);
        CHECKS.due("fault(0) is as ahead of any", x.fault(0), 0);
        CHECKS.due("fault(1) is as ahead of any", x.fault(1), -1);
        CHECKS.due("ask(0)", x.ask(0), -9);
        CHECKS.due("its place", x.fault(1), 0);
        CHECKS.due("feed", Checks.feed(x, "from t0 rubbish"), 20);
        CHECKS.due("ask(21) does nothing", x.ask(21), -10);
        CHECKS.due("ask of the first bytes", x.ask(7), 3);
        CHECKS.due("the rest is gone", x.ask(1), -10);
        CHECKS.due("fault(0)", x.fault(0), 0);
        CHECKS.due("RESULT rows", x.size(6, 0), 3);
        CHECKS.due("RESULT columns", x.size(6, 1), 2);
        CHECKS.due("RESULT kind", x.kind(6, 1), 7);
        CHECKS.due("RESULT cell", x.cell(6, 0, 2), 9);
        CHECKS.due("a query's answer is less its FAULT", Checks.ask(x, "from t0 keep p"), -2);
        CHECKS.due("the RESULT stays", x.size(6, 1), 2);
        CHECKS.due("the tape is empty", x.feed(0, 0, 0, 0, 0), 20);
    }

    private static void tokens() {
        ColumnHouse x = house();
        CHECKS.fine(x, "from t0", 3);
        CHECKS.fine(x, "   from   t0   ", 3);
        CHECKS.fine(x, "from t0where b", 2);
        CHECKS.fine(x, "from t0 let(a)let a<=7", 3);
        CHECKS.fine(x, "from t0 let'12345678'let''", 3);
        CHECKS.due("a TEXT of 8", x.cell(6, 2, 0), Checks.text("12345678"));
        CHECKS.due("a TEXT of 0", x.sort(6, 3, 0), 3);
        CHECKS.fault(x, "fromt0", 9, 0, -1);
        CHECKS.fault(x, "from t6", 9, 5, -1);
        CHECKS.fault(x, "from t00", 9, 5, -1);
        CHECKS.fault(x, "from a", 9, 5, -1);
        CHECKS.fault(x, "from t0 let A", 9, 12, -1);
        CHECKS.fault(x, "from t0 let q", 9, 12, -1);
        CHECKS.fault(x, "from t0 let a1", 9, 12, -1);
        CHECKS.fault(x, "from t0 let abc", 9, 12, -1);
        CHECKS.fault(x, "from t0 let '123456789'", 9, 12, -1);
        CHECKS.fault(x, "from t0 let 'abc", 9, 12, -1);
        CHECKS.fault(x, "from t0 let a ! a", 9, 14, -1);
        CHECKS.fault(x, "from t0 let a = < a", 9, 16, -1);
        CHECKS.fault(x, "from t0 let a < = a", 9, 16, -1);
        CHECKS.fault(x, "from t0 let (a", 9, 14, -1);
        CHECKS.fault(x, "from t0 let   ", 9, 14, -1);
        CHECKS.fault(x, "", 9, 0, -1);
        CHECKS.fault(x, "  ", 9, 2, -1);
    }

    private static void numbers() {
        ColumnHouse x = house();
        CHECKS.fine(x, "from t0 let 123456789", 3);
        CHECKS.due("a WHOLE", x.cell(6, 2, 0), 123456789);
        CHECKS.fine(x, "from t0 let 123456789012345678l let 7l", 3);
        CHECKS.due("a LONG", x.cell(6, 2, 1), 123456789012345678L);
        CHECKS.due("its kind", x.kind(6, 3), 4);
        CHECKS.fine(x, "from t0 let 123456.789 let 0.1f let 0.5 let 2.25", 3);
        CHECKS.due("a REAL", x.cell(6, 2, 0), Checks.real(123456.789));
        CHECKS.due("a SINGLE", x.cell(6, 3, 0), Checks.single(0.1f));
        CHECKS.due("its kind", x.kind(6, 3), 5);
        CHECKS.due("a REAL", x.cell(6, 4, 0), Checks.real(0.5));
        CHECKS.due("a REAL", x.cell(6, 5, 0), Checks.real(2.25));
        CHECKS.fault(x, "from t0 let 1234567890", 9, 12, -1);
        CHECKS.fault(x, "from t0 let 1234567890123456789l", 9, 12, -1);
        CHECKS.fault(x, "from t0 let 1.2345", 9, 12, -1);
        CHECKS.fault(x, "from t0 let 1234567.5", 9, 12, -1);
        CHECKS.fault(x, "from t0 let 1.", 9, 13, -1);
        CHECKS.fault(x, "from t0 let .5", 9, 12, -1);
        CHECKS.fault(x, "from t0 let 1f", 9, 13, -1);
        CHECKS.fault(x, "from t0 first 5l", 9, 14, -1);
        CHECKS.fault(x, "from t0 first 5.0", 9, 14, -1);
        CHECKS.fault(x, "from t0 first -5", 9, 14, -1);
    }

    private static void grammar() {
        ColumnHouse x = house();
        CHECKS.fault(x, "where b", 9, 0, -1);
        CHECKS.fault(x, "from t0 b", 9, 8, -1);
        CHECKS.fault(x, "from t0 from t0", 9, 8, -1);
        CHECKS.fault(x, "from t0 on", 9, 8, -1);
        CHECKS.fault(x, "from t0 at", 9, 8, -1);
        CHECKS.fault(x, "from t0 down", 9, 8, -1);
        CHECKS.fault(x, "from t0 keep a, ", 9, 16, -1);
        CHECKS.fault(x, "from t0 keep a b", 9, 15, -1);
        CHECKS.fault(x, "from t0 join t1 a = b", 9, 16, -1);
        CHECKS.fault(x, "from t0 join t1 on a # b", 9, 21, -1);
        CHECKS.fault(x, "from t0 join t1 on a =", 9, 22, -1);
        CHECKS.fault(x, "from t0 group a count", 9, 16, -1);
        CHECKS.fault(x, "from t0 group a: row", 9, 17, -1);
        CHECKS.fault(x, "from t0 group a: sum", 9, 20, -1);
        CHECKS.fault(x, "from t0 group a: sum(a, a)", 9, 22, -1);
        CHECKS.fault(x, "from t0 group a: count,", 9, 23, -1);
        CHECKS.fault(x, "from t0 sort a, b", 9, 14, -1);
        CHECKS.fault(x, "from t0 over t1 at a", 9, 19, -1);
        CHECKS.fault(x, "from t0 over t1 4", 9, 16, -1);
        CHECKS.fault(x, "from t0 let a = a = a", 9, 18, -1);
        CHECKS.fault(x, "from t0 let a = not b", 9, 16, -1);
        CHECKS.fault(x, "from t0 let + a", 9, 12, -1);
        CHECKS.fault(x, "from t0 let a[0", 9, 15, -1);
        CHECKS.fault(x, "from t0 let a[0)", 9, 15, -1);
        CHECKS.fault(x, "from t0 let abs a", 9, 16, -1);
        CHECKS.fault(x, "from t0 let abs()", 9, 16, -1);
        CHECKS.fault(x, "from t0 let abs(a, a)", 9, 17, -1);
        CHECKS.fault(x, "from t0 let max(a)", 9, 17, -1);
        CHECKS.fault(x, "from t0 let max(a, a, a)", 9, 20, -1);
        CHECKS.fault(x, "from t0 let safe(a)", 9, 18, -1);
        CHECKS.fault(x, "from t0 let if(b, a)", 9, 19, -1);
        CHECKS.fault(x, "from t0 let count", 9, 12, -1);
        CHECKS.fault(x, "from t0 let sum(a)", 9, 12, -1);
        CHECKS.fine(x, "from t0 let from(a) let max(a, 1) group : max(a), min(a)", 1);
        CHECKS.fine(x, "from t0 let 1 + 2 * 3 - 4 let not a = 5 and b or a > 6", 3);
        CHECKS.cells(x, "* ahead of +", 2, 3, 3, 3);
        CHECKS.cells(x, "not behind =, and ahead of or", 3, 0, 1, 1);
        CHECKS.fine(x, "from t0 let 20 - 5 - 3 let 100 / 7 / 2 let -a * 2 let - - a", 3);
        CHECKS.cells(x, "- from the left", 2, 12, 12, 12);
        CHECKS.cells(x, "/ from the left", 3, 7, 7, 7);
        CHECKS.cells(x, "- ahead", 4, -10, -14, -18);
        CHECKS.cells(x, "- twice", 5, 5, 7, 9);
        CHECKS.fine(x, "from t0 let -list(2)[1] let not not b", 3);
        CHECKS.cells(x, "[ ahead of -", 2, 0, 0, 0);
        CHECKS.cells(x, "not twice", 3, 1, 0, 1);
    }

    private static void limits() {
        ColumnHouse x = house();
        CHECKS.fine(x, "from t0 let " + "(".repeat(20) + "a" + ")".repeat(20), 3);
        CHECKS.fault(x, "from t0 let " + "(".repeat(21) + "a" + ")".repeat(21), 9, 32, -1);
        CHECKS.fine(x, "from t0 let " + "-(".repeat(20) + "a" + ")".repeat(20), 3);
        CHECKS.fault(x, "from t0 let " + "abs(".repeat(20) + "a[0]" + ")".repeat(20), 9, 93, -1);
        CHECKS.fine(x, "from t0 let " + "abs(".repeat(19) + "list(1)[0]" + ")".repeat(19), 3);
        CHECKS.fault(x, "from t0 group : sum(" + "(".repeat(20) + "a" + ")".repeat(21), 9, 39, -1);
        CHECKS.fine(x, "from t0 group : sum(" + "(".repeat(19) + "a" + ")".repeat(20), 1);
        CHECKS.fine(x, "from t0 where " + "not ".repeat(12) + "b", 2);
        CHECKS.fault(x, "from t0 where " + "not ".repeat(13) + "b", 9, 62, -1);
        CHECKS.fine(x, "from t0 let " + "-".repeat(12) + "a", 3);
        CHECKS.fault(x, "from t0 let " + "-".repeat(13) + "a", 9, 24, -1);
        CHECKS.fine(x, "from t0 let " + "a+".repeat(143) + "a", 3);
    }

    private static void held(ColumnHouse x, String query, int... want) {
        Checks.ask(x, query);
        for (int i = 0; i < want.length; i++) {
            CHECKS.due(query + " held(" + i + ")", x.held(i), want[i]);
        }
        CHECKS.due(query + " held behind all", x.held(want.length), -1);
        CHECKS.due(query + " held(-1)", x.held(-1), -1);
    }

    private static void holding() {
        ColumnHouse x = house();
        x.table(1, 1);
        Checks.column(x, 1, 3, 5);
        x.table(2, -1);
        held(x, "from t0", 0, 1);
        held(x, "from t0 join t1 on a = a keep a into t3", 0, 2, 6, 7, 3, 1);
        held(x, "from t0 join t0 on a = a", 0, 0, 1, 1);
        held(x, "from t0 keep p into t3", 0, 1);
        held(x, "from t2 into t3", 4, 5);
        held(x, "from t0 join t2 on p = p", 0, 4, 5, 1);
        held(x, "from t0 over t2 at 0 into t3", 0, 4, 5, 1);
        held(x, "from t0 into t3 !");
        held(x, "from t0 join t1 on a = a into t4", 0, 2, 8, 9, 3, 1);
        x.ask(5);
        CHECKS.due("ask of -10 changes nothing", x.held(0), 0);
        StringBuilder all = new StringBuilder("from t1");
        for (int i = 0; i < 41; i++) {
            all.append("into t5");
        }
        CHECKS.due("as many as can be", Checks.ask(x, all.toString()), 1);
        CHECKS.due("the last one held", x.held(41), 10);
        CHECKS.due("the first let go", x.held(42), 11);
        CHECKS.due("the last let go", x.held(83), 3);
        CHECKS.due("none behind it", x.held(84), -1);
    }

    private static void faultsStay() {
        ColumnHouse x = house();
        int place = "from t0 let safe(a / 0, a) let a ".length();
        CHECKS.fault(x, "from t0 let safe(a / 0, a) let a / 0", 6, place, 0);
        Checks.ask(x, "from t0 let safe(a / 0, a) let safe(a % 0, a) let a / 0");
        CHECKS.due("FAULTS taken up", x.fault(3), 2);
        CHECKS.due("FAULT", x.fault(0), 6);
        x.ask(1);
        CHECKS.due("ask of -10 changes nothing", x.fault(3), 2);
        CHECKS.due("ask of -10 changes nothing", x.fault(0), 6);
        Checks.ask(x, "from t0 let safe(a / 0, a)");
        CHECKS.due("taken up", x.fault(3), 1);
        CHECKS.due("no FAULT", x.fault(0), 0);
        CHECKS.due("no place", x.fault(1), -1);
        CHECKS.due("no row", x.fault(2), -1);
        Checks.ask(x, "from t0 let safe(");
        CHECKS.due("none taken up", x.fault(3), 0);
        CHECKS.due("no row of FAULT 9", x.fault(2), -1);
        CHECKS.due("no other what", x.fault(4), -1);
    }
}
