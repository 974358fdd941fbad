/** A ColumnHouse that counts its calls: behind the 512th an answer is free, so none is looked at there. */
final class CountedHouse {
    private static final int MOST = 512;

    final ColumnHouse x = new ColumnHouse();
    private int calls;

    /** Whether so many calls more can be made. */
    boolean has(int more) {
        return calls + more <= MOST;
    }

    /** Counts calls that somebody else makes. */
    ColumnHouse lend(int most) {
        calls += most;
        return x;
    }

    int ask(String query) {
        calls += callsOf(query);
        return Checks.ask(x, query);
    }

    static int callsOf(String query) {
        return (query.length() + 19) / 20 + 1;
    }

    int table(int table, int rows) {
        calls++;
        return x.table(table, rows);
    }

    int column(int table, int kind) {
        calls++;
        return x.column(table, kind);
    }

    int put(int table, int column, int row, long v) {
        calls++;
        return x.put(table, column, row, v);
    }

    int box(int table, int column, int row, int sort, long v) {
        calls++;
        return x.box(table, column, row, sort, v);
    }

    int item(int table, int column, int row, int i, int v) {
        calls++;
        return x.item(table, column, row, i, v);
    }

    int away(int table, int column, boolean away) {
        calls++;
        return x.away(table, column, away);
    }

    int fault(int what) {
        calls++;
        return x.fault(what);
    }

    int held(int i) {
        calls++;
        return x.held(i);
    }

    int size(int table, int what) {
        calls++;
        return x.size(table, what);
    }

    int kind(int table, int column) {
        calls++;
        return x.kind(table, column);
    }

    long cell(int table, int column, int row) {
        calls++;
        return x.cell(table, column, row);
    }

    int sort(int table, int column, int row) {
        calls++;
        return x.sort(table, column, row);
    }

    int number(int table, int column, int row, int i) {
        calls++;
        return x.number(table, column, row, i);
    }

    int credit() {
        calls++;
        return x.credit();
    }
}
