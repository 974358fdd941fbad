import java.util.ArrayList;
import java.util.List;
import java.util.Random;

/** Promises 8, 10, 11, 12 and 18: queries made at random, done by ColumnHouse and by the Model. */
public final class ModelTest {
    private static final Checks CHECKS = new Checks("ModelTest");
    private static final String[] ONES = {"tiny", "sign", "small", "whole", "long", "single", "real", "abs",
        "floor", "ceil", "rint", "round", "signum", "sqrt", "ulp", "next", "expo", "bits", "from", "missing",
        "len", "list", "box", "prior", "run"};
    private static final String[] TWOS = {"max", "min", "copy", "scalb", "cat", "safe"};
    private static final String[] THREES = {"mad", "if", "with"};
    private static final double[] REALS = {0, -0.0, 1, -1, 0.5, 2.5, -3.75, 1e9, -1e19, 1e300, 5e-324,
        Double.NaN, Double.POSITIVE_INFINITY, Double.NEGATIVE_INFINITY, 0.1};
    private static final String[] TEXTS = {"", "a", "ab", "abc", "b", "zzzzzzzz"};

    private final Random random;
    private final CountedHouse house = new CountedHouse();
    private final Model model = new Model();
    private StringBuilder text = new StringBuilder();
    /** What the generator guesses of the WORKING TABLE, so that most columns are there. */
    private List<Integer> kinds = new ArrayList<>();
    private boolean wild;

    private ModelTest(long seed) {
        random = new Random(seed);
    }

    public static void main(String[] args) {
        int runs = args.length > 0 ? Integer.parseInt(args[0]) : 8000;
        long from = args.length > 1 ? Long.parseLong(args[1]) : 0;
        for (long seed = from; seed < from + runs; seed++) {
            new ModelTest(seed).run(seed);
        }
        CHECKS.end();
    }

    private int any(int n) {
        return random.nextInt(n);
    }

    private boolean odds(int n) {
        return random.nextInt(n) == 0;
    }

    private void run(long seed) {
        wild = odds(3);
        if (odds(6)) {
            Checks.spendTo(house.lend(300), any(900));
        }
        house.ask("from t4");
        for (int t = 0; t < 4; t++) {
            fill(t);
        }
        model.credit = house.credit();
        String what = "";
        int queries = 1 + any(4);
        for (int q = 0; q < queries; q++) {
            List<Model.Step> steps = query();
            if (text.length() > 300 || !house.has(CountedHouse.callsOf(text.toString()) + 20)) {
                continue;
            }
            what = "seed " + seed + ": " + text;
            int due = model.ask(steps);
            CHECKS.due(what, house.ask(text.toString()), due);
            CHECKS.due(what + " fault(0)", house.fault(0), model.fault);
            CHECKS.due(what + " fault(1)", house.fault(1), model.place);
            CHECKS.due(what + " fault(2)", house.fault(2), model.row);
            CHECKS.due(what + " fault(3)", house.fault(3), model.taken);
            CHECKS.due(what + " credit()", house.credit(), model.credit);
            for (int i = 0; i <= model.held.size(); i++) {
                CHECKS.due(what + " held", house.held(i), i < model.held.size() ? model.held.get(i) : -1);
            }
        }
        for (int t : odds(3) ? new int[] {0, 1, 2, 3, 6} : new int[] {6, 3, 2, 1, 0}) {
            same(what, t);
        }
    }

    /** Compares a table as far as calls are left, from its last column on or from its first. */
    private void same(String what, int t) {
        Model.Tab tab = model.tables[t];
        if (house.has(2)) {
            CHECKS.due(what + " size(" + t + ", 0)", house.size(t, 0), tab.rows);
            CHECKS.due(what + " size(" + t + ", 1)", house.size(t, 1), tab.cols.size());
        }
        int columns = tab.cols.size();
        boolean back = odds(2);
        for (int i = 0; i < columns; i++) {
            int c = back ? columns - 1 - i : i;
            if (house.has(1)) {
                CHECKS.due(what + " kind(" + t + ", " + c + ")", house.kind(t, c), model.kind(t, c));
            }
            for (int r = 0; r < tab.rows; r++) {
                sameElement(what, t, c, r);
            }
        }
    }

    private void sameElement(String what, int t, int c, int r) {
        Object e = model.tables[t].cols.get(c).e[r];
        if (!house.has(22)) {
            return;
        }
        String cell = what + " (" + t + ", " + c + ", " + r + ")";
        CHECKS.due(cell, house.cell(t, c, r), model.cell(t, c, r));
        CHECKS.due(cell + " sort", house.sort(t, c, r), model.sort(t, c, r));
        for (int i = 0; e instanceof int[] && i < ((int[]) e).length; i++) {
            CHECKS.due(cell + " number", house.number(t, c, r, i), ((int[]) e)[i]);
        }
    }

    private void fill(int t) {
        int rows = odds(8) ? -any(3) : odds(4) ? any(12) : 1 + any(4);
        house.table(t, rows);
        Model.Tab tab = new Model.Tab();
        tab.rows = rows;
        model.tables[t] = tab;
        int columns = odds(6) ? any(9) : 2 + any(4);
        for (int c = 0; c < columns; c++) {
            int kind = any(12);
            if (house.column(t, kind) < 0) {
                return;
            }
            Model.Col col = new Model.Col(kind, rows);
            tab.cols.add(col);
            for (int r = 0; r < rows; r++) {
                element(t, c, r, col);
            }
            if (odds(wild ? 5 : 20)) {
                house.away(t, c, true);
                col.away = true;
            }
        }
    }

    private void element(int t, int c, int r, Model.Col col) {
        int kind = col.kind;
        long small = any(7) - 2;
        long whole = odds(5) ? random.nextLong() : small;
        double real = REALS[any(REALS.length)];
        if (kind <= 4) {
            house.put(t, c, r, whole);
            col.e[r] = kind == 0 ? (long) (byte) whole : kind == 1 ? (long) (char) whole
                    : kind == 2 ? (long) (short) whole : kind == 3 ? (long) (int) whole : whole;
        } else if (kind == 5) {
            house.put(t, c, r, Float.floatToIntBits((float) real));
            col.e[r] = (float) real;
        } else if (kind == 6) {
            house.put(t, c, r, Double.doubleToLongBits(real));
            col.e[r] = real;
        } else if (kind == 7) {
            house.put(t, c, r, small & 1);
            col.e[r] = (small & 1) != 0;
        } else if (kind == 11) {
            int n = odds(12) ? 20 : any(4);
            if (!odds(wild ? 5 : 20) && house.put(t, c, r, n) == 1) {
                int[] list = new int[n];
                for (int i = 0; i < n; i++) {
                    list[i] = any(3);
                    house.item(t, c, r, i, list[i]);
                }
                col.e[r] = list;
            }
        } else {
            boolean textual = kind == 10 || kind == 8 && odds(wild ? 2 : 6);
            String s = TEXTS[any(TEXTS.length)];
            int sort = odds(wild ? 5 : 20) ? 0 : textual ? 3 : 1 + any(2);
            long v = sort == 1 ? small : sort == 2 ? Double.doubleToLongBits(real) : Checks.text(s);
            if (house.box(t, c, r, sort, v) == 1) {
                col.e[r] = sort == 0 ? null : sort == 1 ? (Object) (int) small : sort == 2 ? (Object) real : s;
            }
        }
    }

    private int write(String s) {
        if (text.length() > 0 && (Character.isLetterOrDigit(s.charAt(0)) || odds(3))) {
            text.append(' ');
        }
        int place = text.length();
        text.append(s);
        return place;
    }

    private List<Model.Step> query() {
        text = new StringBuilder();
        List<Model.Step> steps = new ArrayList<>();
        steps.add(tableStep("from"));
        kinds = kindsOf(steps.get(0).table);
        int n = 1 + any(5);
        for (int i = 0; i < n; i++) {
            steps.add(step());
        }
        return steps;
    }

    private List<Integer> kindsOf(int table) {
        List<Integer> all = new ArrayList<>();
        model.tables[table].cols.forEach(c -> all.add(c.kind));
        return all;
    }

    private Model.Step tableStep(String word) {
        Model.Step s = new Model.Step(word, write(word));
        s.table = any(4);
        write("t" + s.table);
        return s;
    }

    private void name(Model.Step s, int most) {
        int column = most == 0 || odds(40) ? any(16) : any(Math.min(most, 16));
        s.columns.add(new int[] {column, write("" + (char) ('a' + column))});
    }

    private Model.Step step() {
        switch (any(11)) {
            case 0:
            case 1:
                Model.Step where = new Model.Step("where", write("where"));
                where.ex = ex(3, 7);
                return where;
            case 2:
            case 3:
            case 4:
                Model.Step let = new Model.Step("let", write("let"));
                int kind = any(12);
                let.ex = ex(4, kind);
                kinds.add(kind);
                return let;
            case 5:
                return keep();
            case 6:
                return join();
            case 7:
                return group();
            case 8:
                Model.Step sort = new Model.Step("sort", write("sort"));
                name(sort, kinds.size());
                sort.down = odds(2);
                if (sort.down) {
                    write("down");
                }
                return sort;
            case 9:
                Model.Step first = new Model.Step("first", write("first"));
                first.number = any(5);
                write("" + first.number);
                return first;
            default:
                Model.Step s = tableStep(odds(2) ? "into" : "over");
                if (s.word.equals("over")) {
                    write("at");
                    s.number = any(3);
                    write("" + s.number);
                }
                return s;
        }
    }

    private Model.Step keep() {
        Model.Step keep = new Model.Step("keep", write("keep"));
        int n = odds(15) ? 17 : 1 + any(4);
        List<Integer> kept = new ArrayList<>();
        for (int i = 0; i < n; i++) {
            if (i > 0) {
                write(",");
            }
            name(keep, kinds.size());
            int column = keep.columns.get(i)[0];
            kept.add(column < kinds.size() ? kinds.get(column) : 0);
        }
        kinds = kept;
        return keep;
    }

    private Model.Step join() {
        Model.Step join = tableStep("join");
        write("on");
        List<Integer> theirs = kindsOf(join.table);
        name(join, kinds.size());
        write("=");
        name(join, theirs.size());
        kinds = new ArrayList<>(kinds);
        kinds.addAll(theirs);
        return join;
    }

    private Model.Step group() {
        Model.Step group = new Model.Step("group", write("group"));
        List<Integer> made = new ArrayList<>();
        int n = any(3);
        for (int i = 0; i < n; i++) {
            if (i > 0) {
                write(",");
            }
            name(group, kinds.size());
            int column = group.columns.get(i)[0];
            made.add(column < kinds.size() ? kinds.get(column) : 0);
        }
        write(":");
        int folds = odds(12) ? 15 : 1 + any(3);
        for (int i = 0; i < folds; i++) {
            if (i > 0) {
                write(",");
            }
            String word = folds > 4 ? "count"
                    : new String[] {"count", "sum", "max", "min", "last", "any"}[any(6)];
            int place = write(word);
            if (word.equals("count")) {
                group.folds.add(new Model.Node(word, place, null, 0));
                made.add(3);
                continue;
            }
            int kind = word.equals("any") ? 7 : word.equals("last") ? any(12) : any(7);
            write("(");
            group.folds.add(new Model.Node(word, place, null, 0, ex(2, kind)));
            write(")");
            made.add(kind);
        }
        kinds = made;
        return group;
    }

    /** An expression that is mostly of a kind (or one like it), in brackets where it needs them. */
    private Model.Node ex(int depth, int kind) {
        int want = odds(wild ? 8 : 40) ? any(12) : kind;
        if (depth <= 0 || odds(4)) {
            return leaf(want);
        }
        if (odds(12)) {
            return function("safe", depth, want, want);
        }
        if (odds(14)) {
            return function("if", depth, 7, want, want);
        }
        if (odds(14)) {
            return function("prior", depth, want);
        }
        if (odds(wild ? 12 : 60)) {
            return anyFunction(depth);
        }
        if (want == 7) {
            return flags(depth);
        }
        if (want == 11) {
            return lists(depth);
        }
        return want >= 8 ? boxes(depth, want) : numbers(depth, want);
    }

    private Model.Node anyFunction(int depth) {
        int n = any(ONES.length + TWOS.length + THREES.length);
        if (n < ONES.length) {
            return function(ONES[n], depth, any(12));
        }
        n -= ONES.length;
        return n < TWOS.length ? function(TWOS[n], depth, any(12), any(12))
                : function(THREES[n - TWOS.length], depth, any(12), any(12), any(12));
    }

    private Model.Node function(String name, int depth, int... kindsOfParts) {
        int place = write(name);
        write("(");
        Model.Node[] parts = new Model.Node[kindsOfParts.length];
        for (int i = 0; i < parts.length; i++) {
            if (i > 0) {
                write(",");
            }
            parts[i] = ex(depth - 1, kindsOfParts[i]);
        }
        write(")");
        return new Model.Node(name, place, null, 0, parts);
    }

    private Model.Node operator(String sign, int depth, int left, int right) {
        write("(");
        Model.Node x = ex(depth - 1, left);
        int place = write(sign);
        Model.Node y = ex(depth - 1, right);
        write(")");
        return new Model.Node(sign, place, null, 0, x, y);
    }

    private Model.Node ahead(String sign, int depth, int kind) {
        write("(");
        int place = write(sign);
        Model.Node x = ex(depth - 1, kind);
        write(")");
        return new Model.Node(sign, place, null, 0, x);
    }

    private Model.Node flags(int depth) {
        switch (any(6)) {
            case 0:
                return operator(odds(2) ? "and" : "or", depth, 7, 7);
            case 1:
                return ahead("not", depth, 7);
            case 2:
                return function("missing", depth, any(12));
            case 3:
                int kind = any(12);
                return operator(odds(2) ? "=" : "#", depth, kind, odds(2) && kind != 7 && kind != 11 ? any(7) : kind);
            default:
                String sign = new String[] {"<", "<=", ">", ">="}[any(4)];
                boolean boxed = odds(3);
                return operator(sign, depth, boxed ? 8 + any(3) : any(7), boxed ? 8 + any(3) : any(7));
        }
    }

    private Model.Node lists(int depth) {
        switch (any(3)) {
            case 0:
                return function("list", depth, any(4));
            case 1:
                return function("with", depth, 11, any(4), any(4));
            default:
                return function("cat", depth, 11, 11);
        }
    }

    private Model.Node boxes(int depth, int kind) {
        return function("box", depth, kind == 9 ? any(7) : kind);
    }

    private Model.Node numbers(int depth, int kind) {
        boolean floating = kind >= 5;
        switch (any(8)) {
            case 0:
                return function(ONES[kind], depth, odds(4) ? 7 : odds(3) ? 9 : any(7));
            case 1:
                return ahead("-", depth, odds(6) ? 9 : kind);
            case 2:
                return function(odds(2) ? "abs" : "run", depth, kind);
            case 3:
                return function(odds(2) ? "max" : "min", depth, kind, any(kind + 1));
            case 4:
                if (!floating) {
                    return odds(2) ? item(depth) : function("len", depth, 11);
                }
                return function(ONES[8 + any(10)], depth, kind);
            case 5:
                if (floating) {
                    return odds(3) ? function("mad", depth, kind, kind, kind)
                            : odds(2) ? function("copy", depth, kind, kind) : function("scalb", depth, kind, any(4));
                }
                return function(odds(2) ? "round" : "expo", depth, 5 + any(2));
            default:
                String sign = new String[] {"+", "-", "*", "/", "%"}[any(5)];
                return operator(sign, depth, odds(8) ? 9 : kind, odds(8) ? 8 : any(kind + 1));
        }
    }

    private Model.Node item(int depth) {
        Model.Node list = ex(depth - 1, 11);
        int place = write("[");
        Model.Node i = ex(depth - 1, any(4));
        write("]");
        return new Model.Node("[", place, null, 0, list, i);
    }

    private Model.Node leaf(int kind) {
        List<Integer> fitting = new ArrayList<>();
        for (int c = 0; c < kinds.size() && c < 16; c++) {
            if (kinds.get(c) == kind) {
                fitting.add(c);
            }
        }
        if (odds(60)) {
            return column(any(16));
        }
        if (!fitting.isEmpty() && !odds(4)) {
            return column(fitting.get(any(fitting.size())));
        }
        return constant(kind);
    }

    private Model.Node column(int c) {
        return new Model.Node("column", write("" + (char) ('a' + c)), null, c);
    }

    private Model.Node constant(int kind) {
        int small = any(5);
        switch (kind) {
            case 4:
                return new Model.Node("constant", write(small + "l"), (long) small, 4);
            case 5:
                return new Model.Node("constant", write(small + ".1f"), (float) ((small * 10 + 1) / 10.0), 5);
            case 6:
                return new Model.Node("constant", write(small + ".25"), (small * 100 + 25) / 100.0, 6);
            case 7:
                write("(");
                Model.Node zero = new Model.Node("row", write("row"), null, 0);
                int place = write("#");
                Model.Node one = new Model.Node("constant", write("1"), 1L, 3);
                write(")");
                return new Model.Node("#", place, null, 0, zero, one);
            case 8:
                return new Model.Node("nil", write("nil"), null, 0);
            case 9:
                return function("box", 1, any(7));
            case 10:
                String s = TEXTS[any(TEXTS.length)];
                return new Model.Node("constant", write("'" + s + "'"), s, 10);
            case 11:
                return function("list", 1, 3);
            default:
                return odds(4) ? new Model.Node("row", write("row"), null, 0)
                        : new Model.Node("constant", write("" + small), (long) small, 3);
        }
    }
}
