import java.io.IOException;
import java.nio.file.Files;
import java.nio.file.Path;

/** Counts what a test finds wrong, and knows how to put a query on the tape. */
final class Checks {
    /** The document, where it can be had: what is quoted of it must stand in it. */
    private static final String DOCUMENT = document();

    private final String name;
    private String sentence = "";
    private int done;
    private int wrong;

    Checks(String name) {
        this.name = name;
    }

    private static String document() {
        try {
            return Files.readString(Path.of("../shared/DOC.md"));
        } catch (IOException e) {
            return "";
        }
    }

    /** What the document says of the answers that follow: one sentence, or several that bear on them. */
    void says(String... sentences) {
        sentence = String.join(" .. ", sentences);
        for (String one : sentences) {
            holds("it is quoted from the document", DOCUMENT.isEmpty() || DOCUMENT.contains(one));
        }
    }

    /** What lies in a column: as cell() tells it, row by row, up to the end of the column. */
    void lies(ColumnHouse x, int table, int column, long... want) {
        due("rows of table " + table, x.size(table, 0), want.length);
        for (int r = 0; r < want.length; r++) {
            due("cell(" + table + ", " + column + ", " + r + ")", x.cell(table, column, r), want[r]);
        }
    }

    /** What was held and let go in the latest query. */
    void heldAre(ColumnHouse x, int... want) {
        for (int i = 0; i < want.length; i++) {
            due("held(" + i + ")", x.held(i), want[i]);
        }
        due("held(" + want.length + ")", x.held(want.length), -1);
    }

    void due(String call, long got, long want) {
        done++;
        if (got != want) {
            wrong++;
            System.out.println(name + ": " + call + " answered " + got + ", due is " + want);
            if (!sentence.isEmpty()) {
                System.out.println("    the document says: " + sentence);
            }
        }
    }

    void holds(String what, boolean right) {
        due(what, right ? 1 : 0, 1);
    }

    /** Ends the program with 1 if anything was wrong. */
    void end() {
        System.out.println(name + ": " + done + " answers, " + wrong + " not as due");
        if (wrong != 0 || done == 0) {
            System.exit(1);
        }
    }

    static int feed(ColumnHouse x, String text) {
        int[] words = new int[5];
        for (int i = 0; i < text.length() && i < 20; i++) {
            words[i / 4] |= text.charAt(i) << (24 - 8 * (i % 4));
        }
        return x.feed(words[0], words[1], words[2], words[3], words[4]);
    }

    static int ask(ColumnHouse x, String query) {
        for (int i = 0; i < query.length(); i += 20) {
            feed(x, query.substring(i, Math.min(query.length(), i + 20)));
        }
        return x.ask(query.length());
    }

    /** A query that is to end with a FAULT, at a place and a row. */
    void fault(ColumnHouse x, String query, int fault, int place, int row) {
        due(query, ask(x, query), -fault);
        due(query + " fault(0)", x.fault(0), fault);
        due(query + " fault(1)", x.fault(1), place);
        due(query + " fault(2)", x.fault(2), row);
    }

    /** A query that is to end with a FAULT where a part of it stands first, at a row. */
    void faultAt(ColumnHouse x, String query, int fault, String part, int row) {
        fault(x, query, fault, query.indexOf(part), row);
    }

    /** A query that is to end well with so many rows. */
    void fine(ColumnHouse x, String query, int rows) {
        due(query, ask(x, query), rows);
        due(query + " fault(0)", x.fault(0), 0);
        due(query + " fault(1)", x.fault(1), -1);
        due(query + " fault(2)", x.fault(2), -1);
    }

    /** The cells of a column of the RESULT. */
    void cells(ColumnHouse x, String what, int column, long... want) {
        due(what + ": rows", x.size(6, 0), want.length);
        for (int r = 0; r < want.length; r++) {
            due(what + ": cell(6, " + column + ", " + r + ")", x.cell(6, column, r), want[r]);
        }
    }

    /** The last column of the RESULT of a query that ends well: its kind and its cells. */
    void gives(ColumnHouse x, String query, int kind, long... want) {
        fine(x, query, want.length);
        int last = x.size(6, 1) - 1;
        due(query + ": kind", x.kind(6, last), kind);
        cells(x, query, last, want);
    }

    /** A query that ends well, and what it takes of CREDIT. */
    void takes(ColumnHouse x, String query, int price) {
        int left = x.credit();
        ask(x, query);
        due(query + ": CREDIT", left - x.credit(), price);
    }

    /** A column more of a table, with what is put into it. */
    static int column(ColumnHouse x, int table, int kind, long... values) {
        int column = x.column(table, kind);
        for (int r = 0; r < values.length; r++) {
            x.put(table, column, r, values[r]);
        }
        return column;
    }

    /** A column more of boxes: null is NOTHING, an Integer a WHOLE, a Double a REAL, a String a text. */
    static int boxes(ColumnHouse x, int table, int kind, Object... values) {
        int column = x.column(table, kind);
        for (int r = 0; r < values.length; r++) {
            if (values[r] instanceof Integer) {
                x.box(table, column, r, 1, (Integer) values[r]);
            } else if (values[r] instanceof Double) {
                x.box(table, column, r, 2, real((Double) values[r]));
            } else if (values[r] instanceof String) {
                x.box(table, column, r, 3, text((String) values[r]));
            }
        }
        return column;
    }

    /** A column more of LISTS; null is NOTHING. */
    static int lists(ColumnHouse x, int table, int[]... values) {
        int column = x.column(table, 11);
        for (int r = 0; r < values.length; r++) {
            if (values[r] != null) {
                x.put(table, column, r, values[r].length);
                for (int i = 0; i < values[r].length; i++) {
                    x.item(table, column, r, i, values[r][i]);
                }
            }
        }
        return column;
    }

    /** Leaves so much of CREDIT; table 5 is used for it, and the RESULT. */
    static void spendTo(ColumnHouse x, int left) {
        int dear = 60 * 4 * 8;
        x.table(5, 60);
        for (int c = 0; c < 8; c++) {
            x.column(5, 8);
        }
        while (x.credit() - left >= dear) {
            int sorts = Math.min(41, (x.credit() - left) / dear - 1);
            ask(x, "from t5" + " sort a".repeat(sorts));
        }
        while (x.credit() > left) {
            x.table(5, Math.min(60, x.credit() - left));
            x.column(5, 0);
        }
    }

    static long text(String s) {
        long v = 0;
        for (int i = 0; i < s.length(); i++) {
            v = (v << 8) | s.charAt(i);
        }
        return v;
    }

    static long real(double d) {
        return Double.doubleToLongBits(d);
    }

    static long single(float f) {
        return Float.floatToIntBits(f);
    }
}
