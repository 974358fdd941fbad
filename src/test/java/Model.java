import java.util.ArrayList;
import java.util.List;

/**
 * The document's PARTS 1, 3 and 4 once more, in the plainest Java: boxed values, the machine's own
 * floating numbers, exceptions for FAULTS, and queries as trees. ModelTest holds ColumnHouse to it.
 */
final class Model {
    static final int NONE = -1;

    static final class Fault extends RuntimeException {
        private static final long serialVersionUID = 1;
        final int code;
        final int place;
        final int row;

        Fault(int code, int place, int row) {
            this.code = code;
            this.place = place;
            this.row = row;
        }
    }

    /** A part of an expression: what stands for it in the text, and where. */
    static final class Node {
        final String op;
        final int place;
        final Object constant;
        final int number;
        final Node[] parts;

        Node(String op, int place, Object constant, int number, Node... parts) {
            this.op = op;
            this.place = place;
            this.constant = constant;
            this.number = number;
            this.parts = parts;
        }
    }

    /** A step: its columns with their places, its folds, and what else it tells. */
    static final class Step {
        final String word;
        final int place;
        int table;
        int number;
        boolean down;
        Node ex;
        final List<int[]> columns = new ArrayList<>();
        final List<Node> folds = new ArrayList<>();

        Step(String word, int place) {
            this.word = word;
            this.place = place;
        }
    }

    /** Whole kinds: Long; SINGLE: Float; REAL: Double; FLAG: Boolean; boxes: Integer, Double, String. */
    static final class Col {
        final int kind;
        final Object[] e;
        boolean away;

        Col(int kind, int rows) {
            this.kind = kind;
            e = new Object[rows];
            for (int r = 0; r < rows; r++) {
                e[r] = kind <= 4 ? (Object) 0L : kind == 5 ? (Object) 0f : kind == 6 ? (Object) 0.0
                        : kind == 7 ? (Object) false : null;
            }
        }
    }

    static final class Tab {
        int rows;
        List<Col> cols = new ArrayList<>();
    }

    final Tab[] tables = new Tab[7];
    int credit = 400_000;
    int fault;
    int place = NONE;
    int row = NONE;
    int taken;
    List<Integer> held = new ArrayList<>();
    private Tab work = new Tab();

    Model() {
        for (int t = 0; t < 7; t++) {
            tables[t] = new Tab();
        }
    }

    int ask(List<Step> steps) {
        fault = 0;
        place = NONE;
        row = NONE;
        taken = 0;
        held = new ArrayList<>();
        List<Integer> holds = new ArrayList<>();
        try {
            for (Step s : steps) {
                if (List.of("from", "join", "into", "over").contains(s.word)) {
                    holds.add(s.table);
                }
                step(s);
            }
            tables[6] = work;
        } catch (Fault f) {
            fault = f.code;
            place = f.place;
            row = f.row;
        }
        for (int t : holds) {
            held.add(2 * t);
        }
        for (int i = holds.size() - 1; i >= 0; i--) {
            held.add(2 * holds.get(i) + 1);
        }
        return fault == 0 ? tables[6].rows : -fault;
    }

    private void pay(int price, int where) {
        if (price > credit) {
            throw new Fault(8, where, NONE);
        }
        credit -= price;
    }

    private static int price(int kind) {
        return kind >= 8 ? 4 : 1;
    }

    private static int price(List<Col> cols, int rows) {
        return cols.stream().mapToInt(c -> price(c.kind) * rows).sum();
    }

    private static void need(boolean right, int code, int place, int row) {
        if (!right) {
            throw new Fault(code, place, row);
        }
    }

    private Col named(Tab t, int[] column) {
        need(column[0] < t.cols.size(), 2, column[1], NONE);
        return t.cols.get(column[0]);
    }

    private static Col pick(Col c, List<Integer> rows, int place) {
        need(!c.away || rows.isEmpty(), 1, place, NONE);
        Col made = new Col(c.kind, rows.size());
        for (int r = 0; r < rows.size(); r++) {
            made.e[r] = c.e[rows.get(r)];
        }
        return made;
    }

    private static Col clone(Col c) {
        Col made = new Col(c.kind, c.e.length);
        System.arraycopy(c.e, 0, made.e, 0, c.e.length);
        made.away = c.away;
        return made;
    }

    private void move(List<Integer> rows, int place) {
        pay(price(work.cols, rows.size()), place);
        Tab made = new Tab();
        made.rows = rows.size();
        for (Col c : work.cols) {
            made.cols.add(pick(c, rows, place));
        }
        work = made;
    }

    private void step(Step s) {
        Tab other = tables[s.table];
        List<Integer> rows = new ArrayList<>();
        switch (s.word) {
            case "from":
                need(other.rows >= 0, 3, s.place, NONE);
                pay(price(other.cols, other.rows), s.place);
                work = new Tab();
                work.rows = other.rows;
                other.cols.forEach(c -> work.cols.add(clone(c)));
                break;
            case "where":
                Col flags = eval(s.ex);
                need(flags.kind == 7, 4, s.place, NONE);
                need(!flags.away || work.rows == 0, 1, s.place, 0);
                for (int r = 0; r < work.rows; r++) {
                    if ((Boolean) flags.e[r]) {
                        rows.add(r);
                    }
                }
                move(rows, s.place);
                break;
            case "let":
                need(work.cols.size() < 16, 7, s.place, NONE);
                Col more = eval(s.ex);
                Tab wider = new Tab();
                wider.rows = work.rows;
                wider.cols.addAll(work.cols);
                wider.cols.add(more);
                work = wider;
                break;
            case "keep":
                Tab kept = new Tab();
                kept.rows = work.rows;
                s.columns.forEach(c -> kept.cols.add(named(work, c)));
                need(kept.cols.size() <= 16, 7, s.place, NONE);
                work = kept;
                break;
            case "join":
                join(s, other);
                break;
            case "group":
                group(s);
                break;
            case "sort":
                Col by = named(work, s.columns.get(0));
                need(by.kind != 11, 4, s.place, NONE);
                need(!by.away || work.rows < 2, 1, s.place, NONE);
                for (int r = 0; r < work.rows; r++) {
                    rows.add(r);
                }
                rows.sort((p, q) -> compare(by.e[p], by.e[q], s.down));
                move(rows, s.place);
                break;
            case "first":
                for (int r = 0; r < work.rows && r < s.number; r++) {
                    rows.add(r);
                }
                move(rows, s.place);
                break;
            case "into":
                need(work.cols.size() <= 8, 7, s.place, NONE);
                pay(price(work.cols, work.rows), s.place);
                Tab made = new Tab();
                made.rows = work.rows;
                work.cols.forEach(c -> made.cols.add(clone(c)));
                tables[s.table] = made;
                break;
            default:
                need(other.rows >= 0, 3, s.place, NONE);
                for (int c = 0; c < work.cols.size(); c++) {
                    need(c < other.cols.size(), 2, s.place, NONE);
                    copy(work.cols.get(c), 0, other.cols.get(c), s.number, work.rows, s.place);
                }
                break;
        }
    }

    /** PART 4. */
    static void copy(Col from, int i, Col to, int j, int n, int place) {
        need(!from.away && !to.away, 1, place, NONE);
        need(from.kind == to.kind || from.kind >= 8 && to.kind >= 8, 5, place, NONE);
        boolean inside = i >= 0 && j >= 0 && n >= 0 && (long) i + n <= from.e.length
                && (long) j + n <= to.e.length;
        need(inside, 2, place, NONE);
        Object[] third = from.e.clone();
        for (int k = 0; k < n; k++) {
            Object x = third[i + k];
            boolean goes = from.kind < 8 || x == null
                    || (x instanceof int[] ? to.kind == 11 : x instanceof String
                    ? to.kind == 8 || to.kind == 10 : to.kind == 8 || to.kind == 9);
            need(goes, 5, place, k);
            to.e[j + k] = x;
        }
    }

    private void join(Step s, Tab other) {
        need(other.rows >= 0, 3, s.place, NONE);
        Col one = named(work, s.columns.get(0));
        Col two = named(other, s.columns.get(1));
        need(canBeLike(one.kind, two.kind), 4, s.place, NONE);
        need(work.cols.size() + other.cols.size() <= 16, 7, s.place, NONE);
        List<Integer> left = new ArrayList<>();
        List<Integer> right = new ArrayList<>();
        for (int r = 0; r < work.rows; r++) {
            for (int q = 0; q < other.rows; q++) {
                need(!one.away && !two.away, 1, s.place, NONE);
                if (alike(one, r, two, q)) {
                    need(left.size() < 60, 7, s.place, NONE);
                    left.add(r);
                    right.add(q);
                }
            }
        }
        pay(price(work.cols, left.size()) + price(other.cols, left.size()), s.place);
        Tab made = new Tab();
        made.rows = left.size();
        work.cols.forEach(c -> made.cols.add(pick(c, left, s.place)));
        other.cols.forEach(c -> made.cols.add(pick(c, right, s.place)));
        work = made;
    }

    private void group(Step s) {
        List<Col> by = new ArrayList<>();
        s.columns.forEach(c -> by.add(named(work, c)));
        for (Col c : by) {
            need(!c.away || work.rows == 0, 1, s.place, NONE);
        }
        List<List<Integer>> groups = new ArrayList<>();
        for (int r = 0; r < work.rows; r++) {
            List<Integer> mine = null;
            for (List<Integer> g : groups) {
                boolean same = true;
                for (Col c : by) {
                    same &= alike(c, g.get(0), c, r)
                            || isNothing(c.e[g.get(0)], c.kind) && isNothing(c.e[r], c.kind);
                }
                if (same && mine == null) {
                    mine = g;
                }
            }
            if (mine == null) {
                mine = new ArrayList<>();
                groups.add(mine);
            }
            mine.add(r);
        }
        List<Col> folds = new ArrayList<>();
        for (Node f : s.folds) {
            folds.add(fold(f, groups));
        }
        need(by.size() + folds.size() <= 16, 7, s.place, NONE);
        pay(price(by, groups.size()) + price(folds, groups.size()), s.place);
        List<Integer> firsts = new ArrayList<>();
        groups.forEach(g -> firsts.add(g.get(0)));
        Tab made = new Tab();
        made.rows = groups.size();
        by.forEach(c -> made.cols.add(pick(c, firsts, s.place)));
        made.cols.addAll(folds);
        work = made;
    }

    private Col fold(Node f, List<List<Integer>> groups) {
        Col x = f.op.equals("count") ? new Col(3, work.rows) : eval(f.parts[0]);
        int kind = x.kind;
        if (f.op.equals("any")) {
            need(kind == 7, 4, f.place, NONE);
        } else if (!f.op.equals("last")) {
            need(kind <= 6, 4, f.place, NONE);
        }
        need(!x.away || work.rows == 0, 1, f.place, 0);
        boolean extreme = f.op.equals("max") || f.op.equals("min");
        int out = f.op.equals("count") ? 3 : f.op.equals("sum") ? (kind >= 5 ? 6 : 4)
                : extreme ? Math.max(kind, 3) : kind;
        Col made = new Col(out, groups.size());
        for (int g = 0; g < groups.size(); g++) {
            List<Integer> rows = groups.get(g);
            Object sofar = extreme ? x.e[rows.get(0)] : made.e[g];
            for (int r : rows) {
                Object e = x.e[r];
                switch (f.op) {
                    case "count":
                        sofar = (long) rows.size();
                        break;
                    case "sum":
                        sofar = out == 4 ? (Object) ((Long) sofar + (Long) e)
                                : (Object) ((Double) sofar + ((Number) e).doubleValue());
                        break;
                    case "last":
                        sofar = e;
                        break;
                    case "any":
                        sofar = (Boolean) sofar || (Boolean) e;
                        break;
                    default:
                        sofar = extreme(f.op, sofar, e, out);
                        break;
                }
            }
            made.e[g] = sofar;
        }
        return made;
    }

    private static Object extreme(String op, Object x, Object y, int kind) {
        boolean max = op.equals("max");
        if (kind <= 4) {
            return max ? Math.max((Long) x, (Long) y) : Math.min((Long) x, (Long) y);
        }
        if (kind == 5) {
            return max ? Math.max((Float) x, (Float) y) : Math.min((Float) x, (Float) y);
        }
        return max ? Math.max((Double) x, (Double) y) : Math.min((Double) x, (Double) y);
    }

    private static boolean isNothing(Object e, int kind) {
        return kind >= 8 ? e == null : kind >= 5 && kind <= 6 && Double.isNaN(((Number) e).doubleValue());
    }

    private static boolean isBoxed(int kind) {
        return kind >= 8 && kind <= 10;
    }

    private static boolean isNumber(int kind) {
        return kind <= 6 || isBoxed(kind);
    }

    private static boolean canBeLike(int k, int l) {
        return k <= 6 && l <= 6 || k == 7 && l == 7 || k == 11 && l == 11
                || isBoxed(k) && isBoxed(l) || isBoxed(k) && l <= 6 || k <= 6 && isBoxed(l);
    }

    private static boolean alike(Col x, int r, Col y, int q) {
        Object a = x.e[r];
        Object b = y.e[q];
        if (x.kind == 11) {
            return java.util.Arrays.equals((int[]) a, (int[]) b);
        }
        if (x.kind == 7) {
            return a.equals(b);
        }
        if (isBoxed(x.kind) || isBoxed(y.kind)) {
            if (a == null || b == null) {
                return a == b;
            }
            if (a instanceof String || b instanceof String) {
                return a.equals(b);
            }
            return ((Number) a).doubleValue() == ((Number) b).doubleValue();
        }
        int kind = together(x.kind, y.kind);
        Object p = convert(a, kind);
        Object o = convert(b, kind);
        return kind <= 4 ? p.equals(o) : ((Number) p).doubleValue() == ((Number) o).doubleValue();
    }

    private static int compare(Object a, Object b, boolean down) {
        int p = a == null ? 2 : a instanceof Number && Double.isNaN(((Number) a).doubleValue()) ? 1 : 0;
        int q = b == null ? 2 : b instanceof Number && Double.isNaN(((Number) b).doubleValue()) ? 1 : 0;
        if (p != 0 || q != 0) {
            return p - q;
        }
        int c;
        if (a instanceof Boolean) {
            c = ((Boolean) a).compareTo((Boolean) b);
        } else if (a instanceof String || b instanceof String) {
            c = a instanceof String && b instanceof String ? ((String) a).compareTo((String) b)
                    : a instanceof String ? 1 : -1;
        } else if (a instanceof Long) {
            c = Long.compare((Long) a, (Long) b);
        } else {
            double m = ((Number) a).doubleValue();
            double n = ((Number) b).doubleValue();
            c = m < n ? -1 : m > n ? 1 : 0;
        }
        return down ? -c : c;
    }

    private static int together(int... kinds) {
        int most = 3;
        for (int k : kinds) {
            most = Math.max(most, isBoxed(k) ? 6 : k);
        }
        return most;
    }

    /** A number or FLAG made of a kind 0 to 6. */
    private static Object convert(Object e, int kind) {
        Object v = e instanceof Boolean ? (Object) ((Boolean) e ? 1L : 0L)
                : e instanceof Integer ? (Object) (double) (Integer) e : e;
        boolean whole = v instanceof Long;
        double d = ((Number) v).doubleValue();
        if (kind == 6) {
            return d;
        }
        if (kind == 5) {
            return whole ? (Object) (float) (long) (Long) v : (Object) (float) d;
        }
        if (kind == 4) {
            return whole ? v : (Object) (long) d;
        }
        int i = whole ? (int) (long) (Long) v : (int) d;
        return kind == 0 ? (long) (byte) i : kind == 1 ? (long) (char) i : kind == 2 ? (long) (short) i
                : (long) i;
    }

    /** An operand of NUMBERS, made of a kind. */
    private Object[] numbers(Col c, int kind, int place) {
        there(c, place);
        Object[] made = new Object[work.rows];
        for (int r = 0; r < work.rows; r++) {
            need(c.e[r] != null, 1, place, r);
            need(!(c.e[r] instanceof String), 4, place, r);
            made[r] = convert(c.e[r], kind);
        }
        return made;
    }

    private void there(Col c, int place) {
        need(!c.away || work.rows == 0, 1, place, 0);
    }

    private void full(Col c, int place) {
        there(c, place);
        for (int r = 0; r < work.rows; r++) {
            need(c.e[r] != null, 1, place, r);
        }
    }

    private Col eval(Node n) {
        if (n.op.equals("column")) {
            need(n.number < work.cols.size(), 2, n.place, NONE);
            return work.cols.get(n.number);
        }
        if (n.op.equals("safe")) {
            try {
                return eval(n.parts[0]);
            } catch (Fault f) {
                if (f.code == 8 || credit < 200) {
                    throw f;
                }
            }
            credit -= 200;
            taken++;
            return eval(n.parts[1]);
        }
        Col[] p = new Col[n.parts.length];
        for (int i = 0; i < p.length; i++) {
            p[i] = eval(n.parts[i]);
        }
        boolean four = List.of("nil", "list", "with", "cat", "box").contains(n.op)
                || n.op.equals("constant") && n.number == 10 || n.op.equals("prior") && p[0].kind >= 8
                || n.op.equals("if") && p[1].kind >= 8;
        pay(work.rows * (four ? 4 : 1), n.place);
        Col made = p.length == 0 ? plain(n) : p.length == 1 ? ofOne(n, p[0])
                : p.length == 2 ? ofTwo(n, p[0], p[1]) : ofThree(n, p[0], p[1], p[2]);
        return made;
    }

    private Col plain(Node n) {
        Col out = new Col(n.op.equals("nil") ? 8 : n.op.equals("row") ? 3 : n.number, work.rows);
        for (int r = 0; r < work.rows; r++) {
            out.e[r] = n.op.equals("nil") ? null : n.op.equals("row") ? (Object) (long) r : n.constant;
        }
        return out;
    }

    private Col ofOne(Node n, Col x) {
        int to = List.of("tiny", "sign", "small", "whole", "long", "single", "real").indexOf(n.op);
        int kind = x.kind;
        int at = n.place;
        boolean floating = kind == 5 || kind == 6;
        Col out;
        Object[] a;
        if (to >= 0) {
            need(kind != 11, 4, at, NONE);
            out = new Col(to, work.rows);
            a = numbers(x, to, at);
            System.arraycopy(a, 0, out.e, 0, work.rows);
            return out;
        }
        switch (n.op) {
            case "-":
                need(isNumber(kind), 4, at, NONE);
                out = new Col(together(kind), work.rows);
                a = numbers(x, out.kind, at);
                for (int r = 0; r < work.rows; r++) {
                    out.e[r] = out.kind == 3 ? (Object) (long) -(int) (long) (Long) a[r]
                            : out.kind == 4 ? (Object) (-(Long) a[r])
                            : out.kind == 5 ? (Object) (-(Float) a[r]) : (Object) (-(Double) a[r]);
                }
                return out;
            case "not":
                need(kind == 7, 4, at, NONE);
                there(x, at);
                out = new Col(7, work.rows);
                for (int r = 0; r < work.rows; r++) {
                    out.e[r] = !(Boolean) x.e[r];
                }
                return out;
            case "abs":
                need(kind <= 6, 4, at, NONE);
                out = new Col(together(kind), work.rows);
                a = numbers(x, out.kind, at);
                for (int r = 0; r < work.rows; r++) {
                    out.e[r] = out.kind == 3 ? (Object) (long) Math.abs((int) (long) (Long) a[r])
                            : out.kind == 4 ? (Object) Math.abs((Long) a[r])
                            : out.kind == 5 ? (Object) Math.abs((Float) a[r])
                            : (Object) Math.abs((Double) a[r]);
                }
                return out;
            case "from":
                need(kind == 3 || kind == 4, 4, at, NONE);
                there(x, at);
                out = new Col(kind == 3 ? 5 : 6, work.rows);
                for (int r = 0; r < work.rows; r++) {
                    long v = (Long) x.e[r];
                    out.e[r] = kind == 3 ? (Object) Float.intBitsToFloat((int) v)
                            : (Object) Double.longBitsToDouble(v);
                }
                return out;
            case "missing":
                there(x, at);
                out = new Col(7, work.rows);
                for (int r = 0; r < work.rows; r++) {
                    out.e[r] = isNothing(x.e[r], kind);
                }
                return out;
            case "len":
                need(kind == 11, 4, at, NONE);
                full(x, at);
                out = new Col(3, work.rows);
                for (int r = 0; r < work.rows; r++) {
                    out.e[r] = (long) ((int[]) x.e[r]).length;
                }
                return out;
            case "list":
                need(kind <= 3, 4, at, NONE);
                there(x, at);
                out = new Col(11, work.rows);
                for (int r = 0; r < work.rows; r++) {
                    long v = (Long) x.e[r];
                    need(v >= 0, 3, at, r);
                    need(v <= 20, 7, at, r);
                    out.e[r] = new int[(int) v];
                }
                return out;
            case "box":
                need(isNumber(kind), 4, at, NONE);
                there(x, at);
                out = new Col(kind <= 6 ? 9 : kind, work.rows);
                for (int r = 0; r < work.rows; r++) {
                    out.e[r] = kind <= 3 ? (Object) (int) (long) (Long) x.e[r]
                            : kind <= 6 ? (Object) ((Number) x.e[r]).doubleValue() : x.e[r];
                }
                return out;
            case "prior":
                there(x, at);
                out = new Col(kind, work.rows);
                for (int r = 0; r < work.rows; r++) {
                    out.e[r] = x.e[r == 0 ? 0 : r - 1];
                }
                return out;
            case "run":
                need(kind <= 6, 4, at, NONE);
                out = new Col(together(kind), work.rows);
                a = numbers(x, out.kind, at);
                for (int r = 0; r < work.rows; r++) {
                    out.e[r] = r == 0 ? a[0] : reckon("+", out.e[r - 1], a[r], out.kind, at, r);
                }
                return out;
            default:
                need(floating, 4, at, NONE);
                there(x, at);
                return shaped(n.op, x);
        }
    }

    private Col shaped(String op, Col x) {
        boolean single = x.kind == 5;
        int kind = op.equals("round") || op.equals("bits") ? (single ? 3 : 4) : op.equals("expo") ? 3 : x.kind;
        Col out = new Col(kind, work.rows);
        for (int r = 0; r < work.rows; r++) {
            double d = ((Number) x.e[r]).doubleValue();
            float f = (float) d;
            if (op.equals("round")) {
                out.e[r] = single ? (long) Math.round(f) : Math.round(d);
            } else if (op.equals("bits")) {
                out.e[r] = single ? (long) Float.floatToIntBits(f) : Double.doubleToLongBits(d);
            } else if (op.equals("expo")) {
                out.e[r] = (long) (single ? Math.getExponent(f) : Math.getExponent(d));
            } else {
                double v = op.equals("floor") ? Math.floor(d) : op.equals("ceil") ? Math.ceil(d)
                        : op.equals("rint") ? Math.rint(d) : op.equals("sqrt") ? Math.sqrt(d)
                        : op.equals("signum") ? Math.signum(d)
                        : op.equals("ulp") ? (single ? Math.ulp(f) : Math.ulp(d))
                        : single ? Math.nextUp(f) : Math.nextUp(d);
                out.e[r] = single ? (Object) (float) v : (Object) v;
            }
        }
        return out;
    }

    private static Object reckon(String op, Object x, Object y, int kind, int place, int row) {
        if (kind <= 4) {
            long a = (Long) x;
            long b = (Long) y;
            need(b != 0 || !op.equals("/") && !op.equals("%"), 6, place, row);
            long c = op.equals("+") ? a + b : op.equals("-") ? a - b : op.equals("*") ? a * b
                    : op.equals("/") ? a / b : a % b;
            return kind == 3 ? (long) (int) c : c;
        }
        if (kind == 5) {
            float a = (Float) x;
            float b = (Float) y;
            return op.equals("+") ? a + b : op.equals("-") ? a - b : op.equals("*") ? a * b
                    : op.equals("/") ? a / b : a % b;
        }
        double a = (Double) x;
        double b = (Double) y;
        return op.equals("+") ? a + b : op.equals("-") ? a - b : op.equals("*") ? a * b
                : op.equals("/") ? a / b : a % b;
    }

    private Col ofTwo(Node n, Col x, Col y) {
        int at = n.place;
        Col out;
        switch (n.op) {
            case "+":
            case "-":
            case "*":
            case "/":
            case "%":
            case "max":
            case "min":
                boolean plain = n.op.length() == 3;
                need(plain ? x.kind <= 6 && y.kind <= 6 : isNumber(x.kind) && isNumber(y.kind), 4, at, NONE);
                out = new Col(together(x.kind, y.kind), work.rows);
                Object[] a = numbers(x, out.kind, at);
                Object[] b = numbers(y, out.kind, at);
                for (int r = 0; r < work.rows; r++) {
                    out.e[r] = plain ? extreme(n.op, a[r], b[r], out.kind)
                            : reckon(n.op, a[r], b[r], out.kind, at, r);
                }
                return out;
            case "=":
            case "#":
                need(canBeLike(x.kind, y.kind), 4, at, NONE);
                there(x, at);
                there(y, at);
                out = new Col(7, work.rows);
                for (int r = 0; r < work.rows; r++) {
                    out.e[r] = alike(x, r, y, r) == n.op.equals("=");
                }
                return out;
            case "and":
            case "or":
                need(x.kind == 7 && y.kind == 7, 4, at, NONE);
                there(x, at);
                there(y, at);
                out = new Col(7, work.rows);
                for (int r = 0; r < work.rows; r++) {
                    out.e[r] = n.op.equals("and") ? (Boolean) x.e[r] && (Boolean) y.e[r]
                            : (Boolean) x.e[r] || (Boolean) y.e[r];
                }
                return out;
            case "[":
                need(x.kind == 11 && y.kind <= 3, 4, at, NONE);
                full(x, at);
                there(y, at);
                out = new Col(3, work.rows);
                for (int r = 0; r < work.rows; r++) {
                    long i = (Long) y.e[r];
                    int[] list = (int[]) x.e[r];
                    need(i >= 0 && i < list.length, 2, at, r);
                    out.e[r] = (long) list[(int) i];
                }
                return out;
            case "copy":
                need((x.kind == 5 || x.kind == 6) && (y.kind == 5 || y.kind == 6), 4, at, NONE);
                out = new Col(together(x.kind, y.kind), work.rows);
                Object[] size = numbers(x, out.kind, at);
                Object[] sign = numbers(y, 6, at);
                for (int r = 0; r < work.rows; r++) {
                    double s = Double.isNaN((Double) sign[r]) ? 1 : (Double) sign[r];
                    out.e[r] = out.kind == 5 ? (Object) Math.copySign((Float) size[r], (float) s)
                            : (Object) Math.copySign((Double) size[r], s);
                }
                return out;
            case "scalb":
                need((x.kind == 5 || x.kind == 6) && y.kind <= 3, 4, at, NONE);
                there(x, at);
                there(y, at);
                out = new Col(x.kind, work.rows);
                for (int r = 0; r < work.rows; r++) {
                    int by = (int) (long) (Long) y.e[r];
                    out.e[r] = x.kind == 5 ? (Object) Math.scalb((Float) x.e[r], by)
                            : (Object) Math.scalb((Double) x.e[r], by);
                }
                return out;
            case "cat":
                need(x.kind == 11 && y.kind == 11, 4, at, NONE);
                full(x, at);
                full(y, at);
                out = new Col(11, work.rows);
                for (int r = 0; r < work.rows; r++) {
                    int[] p = (int[]) x.e[r];
                    int[] q = (int[]) y.e[r];
                    need(p.length + q.length <= 20, 7, at, r);
                    int[] all = java.util.Arrays.copyOf(p, p.length + q.length);
                    System.arraycopy(q, 0, all, p.length, q.length);
                    out.e[r] = all;
                }
                return out;
            default:
                return ordered(n, x, y);
        }
    }

    private Col ordered(Node n, Col x, Col y) {
        int at = n.place;
        need(isNumber(x.kind) && isNumber(y.kind), 4, at, NONE);
        Col out = new Col(7, work.rows);
        boolean boxes = isBoxed(x.kind) && isBoxed(y.kind);
        int kind = together(x.kind, y.kind);
        Object[] a = x.e;
        Object[] b = y.e;
        if (boxes) {
            there(x, at);
            there(y, at);
        } else {
            a = numbers(x, kind, at);
            b = numbers(y, kind, at);
        }
        for (int r = 0; r < work.rows; r++) {
            need(a[r] != null, 1, at, r);
            need(b[r] != null, 1, at, r);
            need(a[r] instanceof String == b[r] instanceof String, 4, at, r);
            boolean less;
            boolean more;
            if (a[r] instanceof String) {
                less = ((String) a[r]).compareTo((String) b[r]) < 0;
                more = ((String) a[r]).compareTo((String) b[r]) > 0;
            } else if (kind <= 4) {
                less = (Long) a[r] < (Long) b[r];
                more = (Long) a[r] > (Long) b[r];
            } else {
                double p = ((Number) a[r]).doubleValue();
                double q = ((Number) b[r]).doubleValue();
                less = p < q;
                more = p > q;
                if (Double.isNaN(p) || Double.isNaN(q)) {
                    out.e[r] = false;
                    continue;
                }
            }
            out.e[r] = n.op.equals("<") ? less : n.op.equals(">") ? more : n.op.equals("<=") ? !more : !less;
        }
        return out;
    }

    private Col ofThree(Node n, Col x, Col y, Col z) {
        int at = n.place;
        Col out;
        if (n.op.equals("mad")) {
            for (Col c : new Col[] {x, y, z}) {
                need(c.kind == 5 || c.kind == 6, 4, at, NONE);
            }
            out = new Col(together(x.kind, y.kind, z.kind), work.rows);
            Object[] a = numbers(x, out.kind, at);
            Object[] b = numbers(y, out.kind, at);
            Object[] c = numbers(z, out.kind, at);
            for (int r = 0; r < work.rows; r++) {
                out.e[r] = reckon("+", reckon("*", a[r], b[r], out.kind, at, r), c[r], out.kind, at, r);
            }
            return out;
        }
        if (n.op.equals("with")) {
            need(x.kind == 11 && y.kind <= 3 && z.kind <= 3, 4, at, NONE);
            full(x, at);
            there(y, at);
            there(z, at);
            out = new Col(11, work.rows);
            for (int r = 0; r < work.rows; r++) {
                int[] list = ((int[]) x.e[r]).clone();
                long i = (Long) y.e[r];
                need(i >= 0 && i < list.length, 2, at, r);
                list[(int) i] = (int) (long) (Long) z.e[r];
                out.e[r] = list;
            }
            return out;
        }
        boolean numbers = y.kind <= 6 && z.kind <= 6;
        boolean boxes = isBoxed(y.kind) && isBoxed(z.kind);
        need(x.kind == 7 && (y.kind == z.kind || numbers || boxes), 4, at, NONE);
        there(x, at);
        there(y, at);
        there(z, at);
        int kind = y.kind == z.kind ? y.kind : boxes ? 8 : together(y.kind, z.kind);
        out = new Col(kind, work.rows);
        for (int r = 0; r < work.rows; r++) {
            Object e = (Boolean) x.e[r] ? y.e[r] : z.e[r];
            out.e[r] = y.kind == z.kind || boxes ? e : convert(e, kind);
        }
        return out;
    }

    int kind(int t, int c) {
        if (c >= tables[t].cols.size()) {
            return NONE;
        }
        Col col = tables[t].cols.get(c);
        return col.kind + (col.away ? 16 : 0);
    }

    long cell(int t, int c, int r) {
        Col col = tables[t].cols.get(c);
        Object e = col.e[r];
        if (e == null) {
            return 0;
        }
        if (e instanceof int[]) {
            return ((int[]) e).length;
        }
        if (e instanceof String) {
            return Checks.text((String) e);
        }
        return e instanceof Boolean ? ((Boolean) e ? 1 : 0)
                : e instanceof Float ? Float.floatToIntBits((Float) e)
                : e instanceof Double ? Double.doubleToLongBits((Double) e) : ((Number) e).longValue();
    }

    int sort(int t, int c, int r) {
        Col col = tables[t].cols.get(c);
        Object e = col.e[r];
        if (col.kind < 8) {
            return NONE;
        }
        return e == null ? 0 : e instanceof Integer ? 1 : e instanceof Double ? 2 : e instanceof String ? 3 : 4;
    }
}
