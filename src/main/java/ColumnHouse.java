import java.util.Arrays;

/**
 * A house of columns: tables of columns of one kind each, and queries over whole columns.
 *
 * <p>A query is read into a flat program (operands ahead of their operator) and done instruction
 * by instruction, so that a FAULT can go straight to the safe() that takes it up.
 */
public final class ColumnHouse {
    /** There is none. */
    public static final int NONE = -1;

    private static final int TABLES = 6;
    private static final int RESULT = 6;
    private static final int MOST_ROWS = 60;
    private static final int MOST_COLUMNS = 8;
    private static final int WIDEST = 16;
    private static final int LONGEST_LIST = 20;
    private static final int TAPE = 300;
    /** The bytes of feed's five words. */
    private static final int FED = 20;
    private static final int FIRST_CREDIT = 400_000;
    private static final int SAFE_PRICE = 200;
    private static final int BOX_PRICE = 4;

    private static final int TINY = 0;
    private static final int SIGN = 1;
    private static final int SMALL = 2;
    private static final int WHOLE = 3;
    private static final int LONG = 4;
    private static final int SINGLE = 5;
    private static final int REAL = 6;
    private static final int FLAG = 7;
    private static final int BOXES = 8;
    private static final int NUMBERS = 9;
    private static final int TEXTS = 10;
    private static final int LISTS = 11;

    private static final int OF_NOTHING = 0;
    private static final int OF_WHOLE = 1;
    private static final int OF_REAL = 2;
    private static final int OF_TEXT = 3;
    private static final int OF_LIST = 4;

    private static final int MISSED = 1;
    private static final int BEYOND = 2;
    private static final int BELOW_ZERO = 3;
    private static final int OTHER_KIND = 4;
    private static final int NO_FIT = 5;
    private static final int BY_ZERO = 6;
    private static final int NO_ROOM = 7;
    private static final int NO_CREDIT = 8;
    private static final int UNREADABLE = 9;

    // The codes of tokens; an operator's or function's is that of its instruction, too.
    private static final int END = 0;
    private static final int BAD = 1;
    private static final int CONSTANT = 2;
    private static final int COLUMN = 3;
    private static final int TABLE = 4;

    private static final String SIGNS = "()[],:+-*/%=#<>";
    private static final int FIRST_SIGN = 10;
    private static final int LEFT_PAREN = 10;
    private static final int RIGHT_PAREN = 11;
    private static final int LEFT_BRACKET = 12;
    private static final int RIGHT_BRACKET = 13;
    private static final int COMMA = 14;
    private static final int COLON = 15;
    private static final int PLUS = 16;
    private static final int MINUS = 17;
    private static final int TIMES = 18;
    private static final int SLASH = 19;
    private static final int PERCENT = 20;
    private static final int LIKE = 21;
    private static final int UNLIKE = 22;
    private static final int LESS = 23;
    private static final int MORE = 24;
    private static final int LESS_OR_LIKE = 25;
    private static final int MORE_OR_LIKE = 26;

    // The order of the words is that of their codes; a blank ends each of them.
    private static final String STEP_WORDS =
            "where let keep join on group sort down first into over at ";
    private static final String OTHER_WORDS = "count sum last any or and not nil row ";
    private static final String MAKING_WORDS = "tiny sign small whole long single real ";
    private static final String SHAPING_WORDS =
            "abs floor ceil rint round signum sqrt ulp next expo bits from missing len list box ";
    private static final String LATER_WORDS = "prior run max min copy scalb cat safe mad if with ";
    private static final int WHERE = 30;
    private static final int LET = 31;
    private static final int KEEP = 32;
    private static final int JOIN = 33;
    private static final int ON = 34;
    private static final int GROUP = 35;
    private static final int SORT = 36;
    private static final int DOWN = 37;
    private static final int FIRST = 38;
    private static final int INTO = 39;
    private static final int OVER = 40;
    private static final int AT = 41;
    private static final int COUNT = 42;
    private static final int SUM = 43;
    private static final int LAST = 44;
    private static final int ANY = 45;
    private static final int OR = 46;
    private static final int AND = 47;
    private static final int NOT = 48;
    private static final int NIL = 49;
    private static final int ROW = 50;
    private static final int TO_TINY = 51;
    private static final int TO_REAL = 57;
    private static final int ABS = 58;
    private static final int FLOOR = 59;
    private static final int CEIL = 60;
    private static final int RINT = 61;
    private static final int ROUND = 62;
    private static final int SIGNUM = 63;
    private static final int SQRT = 64;
    private static final int ULP = 65;
    private static final int NEXT = 66;
    private static final int EXPO = 67;
    private static final int BITS = 68;
    private static final int FROM = 69;
    private static final int MISSING = 70;
    private static final int LEN = 71;
    private static final int LIST = 72;
    private static final int BOX = 73;
    private static final int PRIOR = 74;
    private static final int RUN = 75;
    private static final int MAX = 76;
    private static final int MIN = 77;
    private static final int COPY = 78;
    private static final int SCALB = 79;
    private static final int CAT = 80;
    private static final int SAFE = 81;
    private static final int MAD = 82;
    private static final int IF = 83;
    private static final int WITH = 84;

    // Instructions that no token has for its own.
    private static final int NEGATE = 90;
    private static final int SKIP = 91;
    private static final int START = 92;
    private static final int ADD = 93;
    private static final int NAME = 94;
    private static final int THEIRS = 95;
    private static final int MATCH = 96;
    private static final int FOLD = 97;
    private static final int GROUPED = 98;

    private final Machine machine;
    private final Table[] tables;
    private final Ledger ledger;
    private final Parser parser;
    private final byte[] tape;
    private int taped;

    public ColumnHouse() {
        machine = new Machine();
        tables = machine.tables;
        ledger = machine.ledger;
        parser = new Parser();
        tape = new byte[TAPE];
    }

    public int table(int table, int rows) {
        if (!isTable(table) || rows < -MOST_ROWS || rows > MOST_ROWS) {
            return NONE;
        }
        tables[table].renew(rows);
        return 1;
    }

    public int column(int table, int kind) {
        if (!isTable(table) || kind < TINY || kind > LISTS) {
            return NONE;
        }
        Table t = tables[table];
        if (t.width >= MOST_COLUMNS) {
            return -NO_ROOM;
        }
        if (t.rows < 0) {
            return -BELOW_ZERO;
        }
        if (!ledger.take(t.rows * Column.price(kind))) {
            return -NO_CREDIT;
        }
        t.append(new Column(kind, t.rows));
        return t.width - 1;
    }

    public int put(int table, int column, int row, long v) {
        Column c = changeable(table, column);
        if (c == null) {
            return NONE;
        }
        if (c.away) {
            return -MISSED;
        }
        if (Column.isBoxed(c.kind)) {
            return -OTHER_KIND;
        }
        if (row < 0 || row >= c.rows) {
            return -BEYOND;
        }
        if (c.kind == LISTS) {
            return putList(c, row, v);
        }
        c.v[row] = Column.fromBits(v, c.kind);
        return 1;
    }

    public int box(int table, int column, int row, int sort, long v) {
        Column c = changeable(table, column);
        if (c == null || sort < OF_NOTHING || sort > OF_TEXT) {
            return NONE;
        }
        if (c.away) {
            return -MISSED;
        }
        if (!Column.isBoxed(c.kind)) {
            return -OTHER_KIND;
        }
        if (ledger.left < BOX_PRICE) {
            return -NO_CREDIT;
        }
        if (row < 0 || row >= c.rows) {
            return -BEYOND;
        }
        if (!c.fits(sort)) {
            return -NO_FIT;
        }
        ledger.take(BOX_PRICE);
        c.setBox(row, sort, Column.boxed(sort, v));
        return 1;
    }

    public int item(int table, int column, int row, int i, int v) {
        Column c = changeable(table, column);
        if (c == null) {
            return NONE;
        }
        if (c.away) {
            return -MISSED;
        }
        if (c.kind != LISTS) {
            return -OTHER_KIND;
        }
        if (row < 0 || row >= c.rows) {
            return -BEYOND;
        }
        int[] list = c.lists[row];
        if (list == null) {
            return -MISSED;
        }
        if (i < 0 || i >= list.length) {
            return -BEYOND;
        }
        c.lists[row] = Column.listWith(list, i, v);
        return 1;
    }

    public int away(int table, int column, boolean away) {
        Column c = changeable(table, column);
        if (c == null) {
            return NONE;
        }
        if (c.away == away) {
            return 0;
        }
        c.away = away;
        return 1;
    }

    public int copy(int table, int column, int i, int other, int to, int j, int n) {
        Column source = changeable(table, column);
        Column target = changeable(other, to);
        if (source == null || target == null) {
            return NONE;
        }
        int fault = target.refusal(j, source, i, n);
        if (fault != 0) {
            return -fault;
        }
        return target.receive(j, source, i, n) < n ? -NO_FIT : 1;
    }

    public int feed(int a, int b, int c, int d, int e) {
        if (taped + FED > TAPE) {
            return NONE;
        }
        tapeOf(a);
        tapeOf(b);
        tapeOf(c);
        tapeOf(d);
        tapeOf(e);
        return taped;
    }

    public int ask(int n) {
        if (n < 0 || n > taped) {
            return -10;
        }
        taped = 0;
        ledger.begin();
        parser.read(tape, n);
        if (parser.failedAt == NONE) {
            machine.run(parser.program);
        } else {
            ledger.fail(UNREADABLE, NONE);
            ledger.place = parser.failedAt;
        }
        return ledger.fault == 0 ? tables[RESULT].rows : -ledger.fault;
    }

    public int fault(int what) {
        switch (what) {
            case 0:
                return ledger.fault;
            case 1:
                return ledger.place;
            case 2:
                return ledger.row;
            case 3:
                return ledger.taken;
            default:
                return NONE;
        }
    }

    public int held(int i) {
        return i >= 0 && i < ledger.logged ? ledger.log[i] : NONE;
    }

    public int size(int table, int what) {
        if (table < 0 || table > RESULT) {
            return NONE;
        }
        if (what == 0) {
            return tables[table].rows;
        }
        return what == 1 ? tables[table].width : NONE;
    }

    public int kind(int table, int column) {
        Column c = seen(table, column);
        if (c == null) {
            return NONE;
        }
        return c.away ? c.kind + 16 : c.kind;
    }

    public long cell(int table, int column, int row) {
        Column c = seen(table, column);
        if (c == null || row < 0 || row >= c.rows) {
            return 0;
        }
        if (c.kind == LISTS) {
            int[] list = c.lists[row];
            return list == null ? 0 : list.length;
        }
        return c.kind == SINGLE ? Reals.bits(c.v[row], true) : c.v[row];
    }

    public int sort(int table, int column, int row) {
        Column c = seen(table, column);
        if (c == null || row < 0 || row >= c.rows || c.kind < BOXES) {
            return NONE;
        }
        if (c.kind == LISTS) {
            return c.lists[row] == null ? OF_NOTHING : OF_LIST;
        }
        return c.sorts[row];
    }

    public int number(int table, int column, int row, int i) {
        Column c = seen(table, column);
        if (c == null || c.kind != LISTS || row < 0 || row >= c.rows) {
            return 0;
        }
        int[] list = c.lists[row];
        return list != null && i >= 0 && i < list.length ? list[i] : 0;
    }

    public int credit() {
        return ledger.left;
    }

    private static boolean isTable(int table) {
        return table >= 0 && table < TABLES;
    }

    /** A column of one of the six tables; null when there is none such. */
    private Column changeable(int table, int column) {
        return isTable(table) ? tables[table].get(column) : null;
    }

    /** A column of a table or of the RESULT; null when there is none such. */
    private Column seen(int table, int column) {
        return table >= 0 && table <= RESULT ? tables[table].get(column) : null;
    }

    private int putList(Column c, int row, long v) {
        if (ledger.left < BOX_PRICE) {
            return -NO_CREDIT;
        }
        if (v < 0) {
            return -BELOW_ZERO;
        }
        if (v > LONGEST_LIST) {
            return -NO_ROOM;
        }
        ledger.take(BOX_PRICE);
        c.lists[row] = new int[(int) v];
        return 1;
    }

    /** Every byte comes on the tape; which of them can stand in a query is told when it is read. */
    private void tapeOf(int word) {
        for (int shift = 24; shift >= 0; shift -= 8) {
            if (taped < TAPE) {
                tape[taped] = (byte) (word >>> shift);
                taped++;
            }
        }
    }

    /**
     * Floating numbers of 64 bits, held as their bits and reckoned with whole numbers alone, so
     * that no operation of the machine can answer a NaN. A SINGLE is held as the REAL that it is:
     * what is reckoned of REALs and then made SINGLE is what IEEE 754 has for SINGLEs, as 53
     * digits are more than twice 24 and two.
     */
    private static final class Reals {
        static final long SIGN_BIT = Long.MIN_VALUE;
        static final long INFINITY = 0x7ff0000000000000L;
        static final long NAN = 0x7ff8000000000000L;
        static final long ONE = 0x3ff0000000000000L;
        static final long HALF = 0x3fe0000000000000L;
        static final long HIDDEN = 1L << 52;
        static final int SINGLE_NAN = 0x7fc00000;
        static final int SINGLE_INFINITY = 0x7f800000;

        static long magnitude(long x) {
            return x & Long.MAX_VALUE;
        }

        static boolean isNan(long x) {
            return (x & Long.MAX_VALUE) > INFINITY;
        }

        static boolean isFinite(long x) {
            return (x & Long.MAX_VALUE) < INFINITY;
        }

        /** A finite number is its digits by 2 to its scale. */
        static long digits(long x) {
            long low = x & (HIDDEN - 1);
            return (x & INFINITY) != 0 ? low | HIDDEN : low;
        }

        static int scale(long x) {
            return Math.max((int) ((x & INFINITY) >>> 52), 1) - 1075;
        }

        /** How many places the digits of a number that is below the normal ones lack of 53. */
        static int placesShort(long digits) {
            int places = 0;
            for (int by = 32; by > 0; by >>= 1) {
                if ((digits << places) >>> (53 - by) == 0) {
                    places += by;
                }
            }
            return places;
        }

        /**
         * The number that is nearest to digits (without sign) by 2 to the scale, halves to the
         * even one. Whoever has cut digits off sets the lowest bit for them, so that a half is
         * not seen where there is more.
         */
        static long pack(boolean negative, long digits, int scale, boolean single) {
            long sign = negative ? SIGN_BIT : 0;
            if (digits == 0) {
                return sign;
            }
            long d = digits;
            int lowest = scale;
            for (int by = 32; by > 0; by >>= 1) {
                if (d >>> (64 - by) == 0) {
                    d <<= by;
                    lowest -= by;
                }
            }
            int shift = Math.max(single ? 40 : 11, (single ? -149 : -1074) - lowest);
            if (shift > 64) {
                return sign;
            }
            long kept = shift == 64 ? 0 : d >>> shift;
            long half = 1L << (shift - 1);
            if ((d & half) != 0 && ((d & (half - 1)) != 0 || (kept & 1) != 0)) {
                kept++;
            }
            int unit = lowest + shift;
            if (single && kept != 0) {
                int top = (kept >>> (64 - shift)) == 0 ? 63 - shift : 64 - shift;
                if (top + unit > 127) {
                    return sign | INFINITY;
                }
                kept <<= 52 - top;
                unit -= 52 - top;
            } else if (single) {
                return sign;
            }
            if (unit > 971) {
                return sign | INFINITY;
            }
            return sign | (((long) (unit + 1074) << 52) + kept);
        }

        /** A REAL made SINGLE. */
        static long single(long x) {
            return isFinite(x) ? pack(x < 0, digits(x), scale(x), true) : x;
        }

        static long reckon(int op, long x, long y, boolean single) {
            long z;
            switch (op) {
                case PLUS:
                    z = add(x, y);
                    break;
                case MINUS:
                    z = add(x, y ^ SIGN_BIT);
                    break;
                case TIMES:
                    z = multiply(x, y);
                    break;
                case SLASH:
                    z = divide(x, y);
                    break;
                default:
                    z = remainder(x, y);
                    break;
            }
            return single ? single(z) : z;
        }

        static long add(long x, long y) {
            if (isNan(x) || isNan(y)) {
                return NAN;
            }
            if (magnitude(x) == INFINITY) {
                return magnitude(y) == INFINITY && x != y ? NAN : x;
            }
            if (magnitude(y) == INFINITY) {
                return y;
            }
            boolean inOrder = magnitude(x) >= magnitude(y);
            long big = inOrder ? x : y;
            long small = inOrder ? y : x;
            long high = digits(big) << 10;
            long low = cutBy(digits(small) << 10, scale(big) - scale(small));
            long sum = (x ^ y) < 0 ? high - low : high + low;
            if (sum == 0) {
                return x & y & SIGN_BIT;
            }
            return pack(big < 0, sum, scale(big) - 10, false);
        }

        /** Digits less their last places; the lowest bit is set when that loses any. */
        private static long cutBy(long digits, int places) {
            if (places > 62) {
                return digits == 0 ? 0 : 1;
            }
            boolean lost = (digits & ((1L << places) - 1)) != 0;
            return (digits >>> places) | (lost ? 1 : 0);
        }

        static long multiply(long x, long y) {
            long sign = (x ^ y) & SIGN_BIT;
            long a = magnitude(x);
            long b = magnitude(y);
            if (a > INFINITY || b > INFINITY) {
                return NAN;
            }
            if (a == 0 || b == 0) {
                return a == INFINITY || b == INFINITY ? NAN : sign;
            }
            if (a == INFINITY || b == INFINITY) {
                return sign | INFINITY;
            }
            int shiftX = placesShort(digits(x)) + 10;
            int shiftY = placesShort(digits(y)) + 10;
            long p = digits(x) << shiftX;
            long q = digits(y) << shiftY;
            long mask = 0xffffffffL;
            long low = (p & mask) * (q & mask);
            long middle = (p >>> 32) * (q & mask) + (low >>> 32);
            long cross = (p & mask) * (q >>> 32) + (middle & mask);
            long high = (p >>> 32) * (q >>> 32) + (middle >>> 32) + (cross >>> 32);
            boolean lost = ((low | cross) & mask) != 0;
            int scale = scale(x) - shiftX + scale(y) - shiftY + 64;
            return pack(sign != 0, high | (lost ? 1 : 0), scale, false);
        }

        static long divide(long x, long y) {
            long sign = (x ^ y) & SIGN_BIT;
            long a = magnitude(x);
            long b = magnitude(y);
            if (a > INFINITY || b > INFINITY || a == b && (a == 0 || a == INFINITY)) {
                return NAN;
            }
            if (a == INFINITY || b == 0) {
                return sign | INFINITY;
            }
            if (b == INFINITY || a == 0) {
                return sign;
            }
            int shiftX = placesShort(digits(x));
            int shiftY = placesShort(digits(y));
            long divisor = digits(y) << shiftY;
            if (divisor == 0) {
                return NAN;
            }
            long rest = digits(x) << shiftX;
            long quotient = rest / divisor;
            rest = rest % divisor;
            // Ten digits a turn: what is left has at most 53, and a long has room for 63.
            for (int turn = 0; turn < 6; turn++) {
                rest <<= 10;
                quotient = (quotient << 10) | (rest / divisor);
                rest = rest % divisor;
            }
            int scale = scale(x) - shiftX - scale(y) + shiftY - 60;
            return pack(sign != 0, quotient | (rest != 0 ? 1 : 0), scale, false);
        }

        static long remainder(long x, long y) {
            if (!isFinite(x) || isNan(y) || magnitude(y) == 0) {
                return NAN;
            }
            long divisor = digits(y);
            if (magnitude(x) < magnitude(y) || divisor == 0) {
                return x;
            }
            long rest = digits(x) % divisor;
            for (int places = scale(x) - scale(y); places > 0; places -= 10) {
                rest = (rest << Math.min(places, 10)) % divisor;
            }
            return pack(x < 0, rest, scale(y), false);
        }

        static long root(long x) {
            if (magnitude(x) == 0 || isNan(x) || x == INFINITY) {
                return x;
            }
            if (x < 0) {
                return NAN;
            }
            int shift = placesShort(digits(x));
            long d = digits(x) << shift;
            int scale = scale(x) - shift;
            if ((scale & 1) != 0) {
                d <<= 1;
                scale--;
            }
            long root = 0;
            long rest = 0;
            // Two digits of the square for one of the root; 28 pairs of zeros stand behind them.
            for (int pair = 54; pair >= 0; pair--) {
                rest = (rest << 2) | (pair >= 28 ? (d >>> (2 * (pair - 28))) & 3 : 0);
                long trial = (root << 2) | 1;
                root <<= 1;
                if (rest >= trial) {
                    rest -= trial;
                    root |= 1;
                }
            }
            return pack(false, (root << 1) | (rest != 0 ? 1 : 0), (scale - 56) / 2 - 1, false);
        }

        /** A whole number for each number but NaN that is in their order; -0 and 0 have one. */
        static long orderKey(long x) {
            return x < 0 ? SIGN_BIT - x : x;
        }

        /** Digits by 2 to the scale, cut towards 0 to a LONG. */
        static long cut(boolean negative, long digits, int scale) {
            if (scale > 10) {
                return negative ? Long.MIN_VALUE : Long.MAX_VALUE;
            }
            if (scale < -63) {
                return 0;
            }
            long whole = scale >= 0 ? digits << scale : digits >>> -scale;
            return negative ? -whole : whole;
        }

        /** floor, ceil, rint. */
        static long integral(int op, long x) {
            int places = -scale(x);
            if (places <= 0 || isNan(x) || magnitude(x) == 0) {
                return x;
            }
            if (places > 52) {
                boolean away = op == RINT ? magnitude(x) > HALF : (x < 0) == (op == FLOOR);
                return (x & SIGN_BIT) | (away ? ONE : 0);
            }
            long unit = 1L << places;
            long rest = x & (unit - 1);
            long inner = x - rest;
            boolean away = rest != 0 && (x < 0) == (op == FLOOR);
            if (op == RINT) {
                long half = unit >>> 1;
                away = rest > half || rest == half && (inner & unit) != 0;
            }
            return away ? inner + unit : inner;
        }

        /** The floor of a number and a half together, as a LONG. */
        static long rounded(long x) {
            int places = -scale(x);
            if (isNan(x) || places > 60) {
                return 0;
            }
            if (places <= 0) {
                return cut(x < 0, digits(x), scale(x));
            }
            long d = x < 0 ? -digits(x) : digits(x);
            return (d + (1L << (places - 1))) >> places;
        }

        static long ulp(long x, boolean single) {
            if (!isFinite(x)) {
                return isNan(x) ? NAN : INFINITY;
            }
            return pack(false, 1, single ? Math.max(scale(x) + 29, -149) : scale(x), false);
        }

        static long next(long x, boolean single) {
            if (isNan(x) || x == INFINITY) {
                return x;
            }
            long b = bits(x, single);
            long next = magnitude(x) == 0 ? 1 : x < 0 ? b - 1 : b + 1;
            return single ? ofSingleBits((int) next) : next;
        }

        static long exponent(long x, boolean single) {
            if (!isFinite(x)) {
                return single ? 128 : 1024;
            }
            long exponent = (magnitude(x) >>> 52) - 1023;
            return single ? Math.max(exponent, -127) : exponent;
        }

        static long signum(long x) {
            return isNan(x) || magnitude(x) == 0 ? x : (x & SIGN_BIT) | ONE;
        }

        static long scaled(long x, long n, boolean single) {
            if (!isFinite(x)) {
                return x;
            }
            int by = (int) Math.max(-4000, Math.min(4000, n));
            return pack(x < 0, digits(x), scale(x) + by, single);
        }

        static long withSign(long x, long y) {
            if (isNan(x)) {
                return NAN;
            }
            return magnitude(x) | (isNan(y) ? 0 : y & SIGN_BIT);
        }

        static long negated(long x) {
            return isNan(x) ? x : x ^ SIGN_BIT;
        }

        /** The bits of a SINGLE (a WHOLE) or of a REAL. */
        static long bits(long x, boolean single) {
            if (!single) {
                return x;
            }
            int sign = x < 0 ? Integer.MIN_VALUE : 0;
            if (!isFinite(x)) {
                return isNan(x) ? SINGLE_NAN : sign | SINGLE_INFINITY;
            }
            int exponent = (int) (magnitude(x) >>> 52) - 1023;
            if (exponent >= -126) {
                int fraction = (int) ((x & (HIDDEN - 1)) >>> 29);
                return sign | ((exponent + 127) << 23) | fraction;
            }
            return exponent < -149 ? sign : sign | (int) (digits(x) >>> (-97 - exponent));
        }

        static long ofSingleBits(int bits) {
            boolean negative = bits < 0;
            int size = bits & Integer.MAX_VALUE;
            if (size >= SINGLE_INFINITY) {
                long infinity = negative ? SIGN_BIT | INFINITY : INFINITY;
                return size > SINGLE_INFINITY ? NAN : infinity;
            }
            int exponent = Math.max(size >>> 23, 1);
            int digits = size >= 0x800000 ? (size & 0x7fffff) | 0x800000 : size;
            return pack(negative, digits, exponent - 150, false);
        }

        static long ofBits(long bits) {
            return isNan(bits) ? NAN : bits;
        }

        /** The functions of one SINGLE or REAL. */
        static long shaped(int op, long x, boolean single) {
            switch (op) {
                case ROUND:
                    long whole = rounded(x);
                    return single ? Column.clamped(whole) : whole;
                case SIGNUM:
                    return signum(x);
                case SQRT:
                    return single ? single(root(x)) : root(x);
                case ULP:
                    return ulp(x, single);
                case NEXT:
                    return next(x, single);
                case EXPO:
                    return exponent(x, single);
                case BITS:
                    return bits(x, single);
                default:
                    return integral(op, x);
            }
        }
    }

    /**
     * Elements of one kind. Lists are never changed where they lie but replaced, so that columns
     * can share them.
     */
    private static final class Column {
        final int kind;
        final int rows;
        /** Numbers, FLAGS (1, 0), or what boxes hold: of a text its bytes, the last one lowest. */
        final long[] v;
        final byte[] sorts;
        final int[][] lists;
        boolean away;

        Column(int kind, int rows) {
            this.kind = kind;
            this.rows = rows;
            v = new long[kind == LISTS ? 0 : rows];
            sorts = new byte[kind >= BOXES && kind <= TEXTS ? rows : 0];
            lists = new int[kind == LISTS ? rows : 0][];
        }

        static boolean isBoxed(int kind) {
            return kind >= BOXES && kind <= TEXTS;
        }

        static boolean isFloating(int kind) {
            return kind == SINGLE || kind == REAL;
        }

        static boolean isPlain(int kind) {
            return kind <= REAL;
        }

        /** Whether elements of a kind are NUMBERS as operators have them. */
        static boolean isNumber(int kind) {
            return isPlain(kind) || isBoxed(kind);
        }

        static int price(int kind) {
            return kind >= BOXES ? BOX_PRICE : 1;
        }

        static int together(int one, int other) {
            if (isBoxed(one) || isBoxed(other)) {
                return REAL;
            }
            return Math.max(WHOLE, Math.max(one, other));
        }

        static long lowestBits(long v, int kind) {
            switch (kind) {
                case TINY:
                    return (byte) v;
                case SIGN:
                    return v & 0xffff;
                case SMALL:
                    return (short) v;
                case WHOLE:
                    return (int) v;
                case FLAG:
                    return v != 0 ? 1 : 0;
                default:
                    return v;
            }
        }

        static long fromBits(long v, int kind) {
            if (kind == SINGLE) {
                return Reals.ofSingleBits((int) v);
            }
            return kind == REAL ? Reals.ofBits(v) : lowestBits(v, kind);
        }

        static long clamped(long v) {
            return Math.max(Integer.MIN_VALUE, Math.min(Integer.MAX_VALUE, v));
        }

        /** An element of a kind 0 to 7 made of a kind 0 to 6. */
        static long converted(long v, int from, int to) {
            if (!isFloating(from)) {
                return isFloating(to) ? Reals.pack(v < 0, Math.abs(v), 0, to == SINGLE)
                        : lowestBits(v, to);
            }
            if (to == SINGLE && from == REAL && Reals.isFinite(v)) {
                return Reals.pack(v < 0, Reals.digits(v), Reals.scale(v), true);
            }
            if (isFloating(to)) {
                return v;
            }
            boolean nan = Reals.isNan(v);
            long cut = nan ? 0 : Reals.cut(v < 0, Reals.digits(v), Reals.scale(v));
            return to == LONG ? cut : lowestBits(clamped(cut), to);
        }

        /** The greater or the lesser one of two of a kind, -0 being less than 0. */
        static long extreme(int op, long x, long y, int kind) {
            if (!isFloating(kind)) {
                return op == MAX ? Math.max(x, y) : Math.min(x, y);
            }
            if (Reals.isNan(x) || Reals.isNan(y)) {
                return Reals.NAN;
            }
            long a = Reals.orderKey(x);
            long b = Reals.orderKey(y);
            if (a == b) {
                return op == MAX ? x & y : x | y;
            }
            return (a > b) == (op == MAX) ? x : y;
        }

        /** What a box of a sort holds, of what box() tells. */
        static long boxed(int sort, long v) {
            switch (sort) {
                case OF_WHOLE:
                    return (int) v;
                case OF_REAL:
                    return Reals.ofBits(v);
                case OF_TEXT:
                    return textOf(v);
                default:
                    return 0;
            }
        }

        private static long textOf(long v) {
            long text = 0;
            for (int shift = 56; shift >= 0; shift -= 8) {
                long b = (v >>> shift) & 255;
                if (b != 0) {
                    text = (text << 8) | b;
                }
            }
            return text;
        }

        static int[] listWith(int[] list, int i, int v) {
            int[] changed = Arrays.copyOf(list, list.length);
            if (i >= 0 && i < changed.length) {
                changed[i] = v;
            }
            return changed;
        }

        boolean isNothing(int row) {
            if (kind == LISTS) {
                return lists[row] == null;
            }
            if (isBoxed(kind)) {
                return sorts[row] == OF_NOTHING;
            }
            return isFloating(kind) && Reals.isNan(v[row]);
        }

        /** A box of a number as a REAL. */
        long realOf(int row) {
            long held = v[row];
            boolean whole = sorts[row] == OF_WHOLE;
            return whole ? Reals.pack(held < 0, Math.abs(held), 0, false) : held;
        }

        void setBox(int row, int sort, long held) {
            sorts[row] = (byte) sort;
            v[row] = held;
        }

        /** Whether a box of a sort goes into this column of boxes. */
        boolean fits(int sort) {
            return kind == BOXES || sort == OF_NOTHING || (kind == TEXTS) == (sort == OF_TEXT);
        }

        /** Takes an element that goes here; of boxes and LISTS, NOTHING goes into both. */
        void set(int row, Column from, int fromRow) {
            boolean fromLists = from.kind == LISTS;
            if (kind == LISTS) {
                lists[row] = fromLists ? from.lists[fromRow] : null;
                return;
            }
            v[row] = fromLists ? 0 : from.v[fromRow];
            if (kind >= BOXES) {
                sorts[row] = fromLists ? OF_NOTHING : from.sorts[fromRow];
            }
        }

        /** A new column of n rows of this one. */
        Column picked(int[] picks, int n) {
            Column made = new Column(kind, n);
            for (int r = 0; r < n; r++) {
                made.set(r, this, picks[r]);
            }
            return made;
        }

        Column twin() {
            Column made = new Column(kind, rows);
            for (int r = 0; r < rows; r++) {
                made.set(r, this, r);
            }
            made.away = away;
            return made;
        }

        /** The FAULT that keeps a COPY into this column from beginning; 0 without one. */
        int refusal(int at, Column from, int i, int n) {
            if (away || from.away) {
                return MISSED;
            }
            if (kind != from.kind && (kind < BOXES || from.kind < BOXES)) {
                return NO_FIT;
            }
            if (i < 0 || at < 0 || n < 0 || (long) i + n > from.rows || (long) at + n > rows) {
                return BEYOND;
            }
            return 0;
        }

        /** Does a COPY that nothing refuses: how many elements came, up to one that doesn't go. */
        int receive(int at, Column from, int i, int n) {
            int going = 0;
            while (going < n && admits(from, i + going)) {
                going++;
            }
            // A column may be copied into itself: what is still to be read isn't written over.
            boolean backwards = at > i;
            for (int k = 0; k < going; k++) {
                int step = backwards ? going - 1 - k : k;
                set(at + step, from, i + step);
            }
            return going;
        }

        private boolean admits(Column from, int row) {
            if (kind < BOXES || from.isNothing(row)) {
                return true;
            }
            if (kind == LISTS || from.kind == LISTS) {
                return kind == from.kind;
            }
            return fits(from.sorts[row]);
        }
    }

    /** ROWS and columns. */
    private static final class Table {
        final Column[] columns = new Column[WIDEST];
        int rows;
        int width;

        void renew(int rows) {
            this.rows = rows;
            width = 0;
        }

        void append(Column c) {
            if (width < WIDEST) {
                columns[width] = c;
                width++;
            }
        }

        Column get(int column) {
            return column >= 0 && column < width ? columns[column] : null;
        }

        /** What so many rows of all columns take of CREDIT. */
        int price(int n) {
            int price = 0;
            for (int c = 0; c < width; c++) {
                price += n * Column.price(columns[c].kind);
            }
            return price;
        }

        boolean hasAway() {
            for (int c = 0; c < width; c++) {
                if (columns[c].away) {
                    return true;
                }
            }
            return false;
        }

        void becomeTwinOf(Table other) {
            renew(other.rows);
            for (int c = 0; c < other.width; c++) {
                append(other.columns[c].twin());
            }
        }

        /** For the RESULT, whose columns nothing changes. */
        void share(Table other) {
            renew(other.rows);
            for (int c = 0; c < other.width; c++) {
                append(other.columns[c]);
            }
        }

        void pick(int[] picks, int n) {
            for (int c = 0; c < width; c++) {
                columns[c] = columns[c].picked(picks, n);
            }
            rows = n;
        }
    }

    /** What is left of CREDIT, and what became of the latest query. */
    private static final class Ledger {
        int left = FIRST_CREDIT;
        int fault;
        int place = NONE;
        int row = NONE;
        int taken;
        /** The shortest step that holds a table has 7 bytes: a query holds fewer than 64. */
        final int[] log = new int[128];
        int logged;

        void begin() {
            fault = 0;
            place = NONE;
            row = NONE;
            taken = 0;
            logged = 0;
        }

        boolean take(int price) {
            if (price > left) {
                return false;
            }
            left -= price;
            return true;
        }

        /** Takes CREDIT, or fails. */
        boolean pay(int price) {
            return take(price) || fail(NO_CREDIT, NONE);
        }

        /** Always false, so that a check can end with it. */
        boolean fail(int fault, int row) {
            this.fault = fault;
            this.row = row;
            return false;
        }

        /** Takes a FAULT up for safe(), if that can be. */
        boolean takeUp() {
            if (fault == NO_CREDIT || !take(SAFE_PRICE)) {
                return false;
            }
            taken++;
            fault = 0;
            row = NONE;
            return true;
        }

        void hold(int table) {
            if (logged < log.length) {
                log[logged] = 2 * table;
                logged++;
            }
        }

        void letGo() {
            int holds = Math.min(logged, log.length / 2);
            for (int i = holds - 1; i >= 0; i--) {
                log[logged] = log[i] + 1;
                logged++;
            }
        }
    }

    /** How the elements of a column stand to others: by rank, then by key. */
    private static final class Keys {
        static final int ORDERED = 0;
        static final int TEXT = 1;
        static final int NOT_A_NUMBER = 2;
        static final int NOTHING = 3;
        static final int WHOLE_LIST = 4;

        final int[] rank = new int[MOST_ROWS];
        final long[] key = new long[MOST_ROWS];
        private int[][] lists = new int[0][];

        /** Whether = can take two kinds. */
        static boolean canBeLike(int one, int other) {
            return one == other || Column.isNumber(one) && Column.isNumber(other);
        }

        /** Looks at a column, its kinds 0 to 6 being made of another kind first. */
        void fill(Column c, int kind, int rows) {
            lists = c.lists;
            for (int r = 0; r < rows; r++) {
                if (c.kind >= BOXES && c.isNothing(r)) {
                    rank[r] = NOTHING;
                } else if (c.kind == LISTS) {
                    rank[r] = WHOLE_LIST;
                } else if (Column.isBoxed(c.kind) && c.sorts[r] == OF_TEXT) {
                    rank[r] = TEXT;
                    key[r] = textKey(c.v[r]);
                } else if (Column.isBoxed(c.kind)) {
                    fillReal(r, c.realOf(r));
                } else if (c.kind == FLAG || kind <= LONG) {
                    rank[r] = ORDERED;
                    key[r] = c.v[r];
                } else {
                    fillReal(r, Column.converted(c.v[r], c.kind, kind));
                }
            }
        }

        private void fillReal(int r, long x) {
            rank[r] = Reals.isNan(x) ? NOT_A_NUMBER : ORDERED;
            key[r] = Reals.orderKey(x);
        }

        /** No byte of a text is 0: filled up with zeros behind, texts are in order as numbers. */
        private static long textKey(long text) {
            long aligned = text;
            for (int i = 0; i < 8 && aligned != 0 && (aligned >>> 56) == 0; i++) {
                aligned <<= 8;
            }
            return aligned ^ Long.MIN_VALUE;
        }

        boolean alike(int r, Keys other, int q) {
            if (rank[r] != other.rank[q] || rank[r] == NOT_A_NUMBER) {
                return false;
            }
            if (rank[r] == WHOLE_LIST) {
                return sameNumbers(lists[r], other.lists[q]);
            }
            return rank[r] == NOTHING || key[r] == other.key[q];
        }

        private static boolean sameNumbers(int[] one, int[] other) {
            if (one.length != other.length) {
                return false;
            }
            for (int i = 0; i < one.length; i++) {
                if (one[i] != other[i]) {
                    return false;
                }
            }
            return true;
        }

        /** Whether sort has row r ahead of row q. */
        boolean isAhead(int r, int q, boolean down) {
            if (rank[r] >= NOT_A_NUMBER || rank[q] >= NOT_A_NUMBER) {
                return rank[r] < rank[q];
            }
            int order = rank[r] != rank[q] ? rank[r] - rank[q] : Long.compare(key[r], key[q]);
            return down ? order > 0 : order < 0;
        }
    }

    /** The tokens of a query, up to its end or to the first place where none stands. */
    private static final class Tokens {
        final int[] code = new int[TAPE + 1];
        final int[] place = new int[TAPE + 1];
        /** The kind of a constant, the number of a column or table. */
        final int[] arg = new int[TAPE + 1];
        final long[] value = new long[TAPE + 1];
        int count;
        private byte[] text = new byte[0];
        private int end;

        void scan(byte[] text, int n) {
            this.text = text;
            end = Math.min(n, text.length);
            count = 0;
            int at = 0;
            for (int i = 0; i <= end && i <= TAPE; i++) {
                at = behindBlanks(at);
                place[i] = at;
                at = scanOne(i, at);
                count = i + 1;
                if (code[i] == END || code[i] == BAD) {
                    return;
                }
            }
        }

        private int byteAt(int at) {
            return at >= 0 && at < end ? text[at] & 255 : 0;
        }

        private int behindBlanks(int from) {
            int at = from;
            while (at < end && byteAt(at) == ' ') {
                at++;
            }
            return at;
        }

        private int behindDigits(int from) {
            int at = from;
            while (at < end && isDigit(byteAt(at))) {
                at++;
            }
            return at;
        }

        private static boolean isDigit(int b) {
            return b >= '0' && b <= '9';
        }

        private static boolean isLetter(int b) {
            return b >= 'a' && b <= 'z';
        }

        /** Reads token i: the place behind it. */
        private int scanOne(int i, int at) {
            int b = byteAt(at);
            if (at >= end) {
                code[i] = END;
                return at;
            }
            if (isLetter(b)) {
                return scanWord(i, at);
            }
            if (isDigit(b)) {
                return scanNumber(i, at);
            }
            return b == '\'' ? scanText(i, at) : scanSign(i, at);
        }

        private int scanWord(int i, int from) {
            int letters = from;
            while (letters < end && isLetter(byteAt(letters))) {
                letters++;
            }
            int behind = behindDigits(letters);
            int first = byteAt(from);
            code[i] = BAD;
            if (behind > letters) {
                int digit = byteAt(letters) - '0';
                boolean isPair = letters == from + 1 && behind == letters + 1;
                if (isPair && first == 't' && digit < TABLES) {
                    code[i] = TABLE;
                    arg[i] = digit;
                }
            } else if (letters == from + 1 && first <= 'p') {
                code[i] = COLUMN;
                arg[i] = first - 'a';
            } else {
                int length = letters - from;
                int code = wordCode(STEP_WORDS, WHERE, from, length);
                code = code != BAD ? code : wordCode(OTHER_WORDS, COUNT, from, length);
                code = code != BAD ? code : wordCode(MAKING_WORDS, TO_TINY, from, length);
                code = code != BAD ? code : wordCode(SHAPING_WORDS, ABS, from, length);
                code = code != BAD ? code : wordCode(LATER_WORDS, PRIOR, from, length);
                this.code[i] = code;
            }
            return behind;
        }

        /** The code of a word among some; BAD if it is none of them. */
        private int wordCode(String words, int first, int from, int length) {
            int code = first;
            int matched = 0;
            boolean same = true;
            for (int i = 0; i < words.length(); i++) {
                char c = words.charAt(i);
                if (c != ' ') {
                    same = same && matched < length && byteAt(from + matched) == c;
                    matched++;
                } else if (same && matched == length) {
                    return code;
                } else {
                    code++;
                    matched = 0;
                    same = true;
                }
            }
            return BAD;
        }

        private int scanNumber(int i, int from) {
            int behind = behindDigits(from);
            int digits = behind - from;
            if (byteAt(behind) == '.' && isDigit(byteAt(behind + 1))) {
                return scanReal(i, from, behind);
            }
            boolean isLong = byteAt(behind) == 'l';
            constant(i, isLong ? LONG : WHOLE, wholeOf(0, from, behind));
            if (digits > (isLong ? 18 : 9)) {
                code[i] = BAD;
            }
            return isLong ? behind + 1 : behind;
        }

        private int scanReal(int i, int from, int point) {
            int behind = behindDigits(point + 1);
            int places = behind - point - 1;
            boolean single = byteAt(behind) == 'f';
            long digits = wholeOf(wholeOf(0, from, point), point + 1, behind);
            long divisor = places == 1 ? 10 : places == 2 ? 100 : 1000;
            long x = Reals.divide(Reals.pack(false, digits, 0, false),
                    Reals.pack(false, divisor, 0, false));
            constant(i, single ? SINGLE : REAL, single ? Reals.single(x) : x);
            if (point - from > 6 || places > 3) {
                code[i] = BAD;
            }
            return single ? behind + 1 : behind;
        }

        private long wholeOf(long ahead, int from, int to) {
            long whole = ahead;
            for (int at = from; at < to; at++) {
                whole = whole * 10 + (byteAt(at) - '0');
            }
            return whole;
        }

        private int scanText(int i, int from) {
            int at = from + 1;
            long held = 0;
            for (int n = 0; n < 8 && isOfText(byteAt(at)); n++) {
                held = (held << 8) | byteAt(at);
                at++;
            }
            constant(i, TEXTS, held);
            if (byteAt(at) != '\'') {
                code[i] = BAD;
            }
            return at + 1;
        }

        /** Whether a byte can stand between the two ': a query has bytes 32 to 126 alone. */
        private static boolean isOfText(int b) {
            return b >= 32 && b <= 126 && b != '\'';
        }

        private int scanSign(int i, int at) {
            int sign = SIGNS.indexOf((char) byteAt(at));
            code[i] = sign < 0 ? BAD : FIRST_SIGN + sign;
            boolean orLike = byteAt(at + 1) == '=';
            if (orLike && (code[i] == LESS || code[i] == MORE)) {
                code[i] = code[i] == LESS ? LESS_OR_LIKE : MORE_OR_LIKE;
                return at + 2;
            }
            return at + 1;
        }

        private void constant(int i, int kind, long held) {
            code[i] = CONSTANT;
            arg[i] = kind;
            value[i] = held;
        }
    }

    /** A query as instructions, each with its place in the text. */
    private static final class Program {
        /** No token of a query makes more than two instructions. */
        private static final int ROOM = 2 * TAPE + 8;

        final int[] op = new int[ROOM];
        final int[] place = new int[ROOM];
        final int[] arg = new int[ROOM];
        final long[] value = new long[ROOM];
        int count;

        void add(int op, int place, int arg, long value) {
            if (count < ROOM) {
                this.op[count] = op;
                this.place[count] = place;
                this.arg[count] = arg;
                this.value[count] = value;
                count++;
            }
        }

        /** Lets an instruction that jumps go to what comes next. */
        void aim(int instruction) {
            if (instruction >= 0 && instruction < count) {
                arg[instruction] = count;
            }
        }

        /** How many operands an operator or function has; 0 for other instructions. */
        static int operands(int op) {
            if (op == NOT || op == NEGATE || op >= TO_TINY && op <= RUN) {
                return 1;
            }
            if (op >= MAD && op <= WITH) {
                return 3;
            }
            boolean sign = op >= PLUS && op <= MORE_OR_LIKE || op == LEFT_BRACKET;
            return sign || op == OR || op == AND || op >= MAX && op <= SAFE ? 2 : 0;
        }
    }

    /** Reads a query by its grammar, a method for each of its rules, into a program. */
    private static final class Parser {
        private static final int DEEPEST = 20;
        private static final int MOST_SIGNS = 12;

        final Program program = new Program();
        /** The place of the first token that can't stand there. */
        int failedAt = NONE;
        private final Tokens tokens = new Tokens();
        private int next;
        private int depth;

        void read(byte[] text, int n) {
            tokens.scan(text, n);
            program.count = 0;
            failedAt = NONE;
            next = 0;
            depth = 0;
            int place = here();
            expect(FROM);
            tableOf(START, place);
            for (int i = 0; i < tokens.count && failedAt == NONE && code() != END; i++) {
                step();
            }
        }

        private int code() {
            return tokens.code[next];
        }

        private int here() {
            return tokens.place[next];
        }

        private void fail() {
            if (failedAt == NONE) {
                failedAt = tokens.place[next];
            }
        }

        private boolean at(int code) {
            return failedAt == NONE && tokens.code[next] == code;
        }

        private void advance() {
            if (next + 1 < tokens.count) {
                next++;
            }
        }

        private boolean expect(int code) {
            if (!at(code)) {
                fail();
                return false;
            }
            advance();
            return true;
        }

        private void emit(int op, int place, int arg) {
            program.add(op, place, arg, 0);
        }

        private void step() {
            int word = code();
            int place = here();
            if (word < WHERE || word > OVER || word == ON || word == DOWN) {
                fail();
                return;
            }
            advance();
            switch (word) {
                case WHERE:
                    ex();
                    emit(WHERE, place, 0);
                    break;
                case LET:
                    emit(LET, place, 0);
                    ex();
                    emit(ADD, place, 0);
                    break;
                case KEEP:
                    names();
                    emit(KEEP, place, 0);
                    break;
                case JOIN:
                    join(place);
                    break;
                case GROUP:
                    group(place);
                    break;
                case SORT:
                    name(NAME);
                    boolean down = at(DOWN) && expect(DOWN);
                    emit(SORT, place, down ? 1 : 0);
                    break;
                case FIRST:
                    program.add(FIRST, place, 0, wholeNumber());
                    break;
                case INTO:
                    tableOf(INTO, place);
                    break;
                default:
                    over(place);
                    break;
            }
        }

        private void tableOf(int op, int place) {
            int table = tokens.arg[next];
            if (expect(TABLE)) {
                emit(op, place, table);
            }
        }

        private void name(int op) {
            int place = here();
            int column = tokens.arg[next];
            if (expect(COLUMN)) {
                emit(op, place, column);
            }
        }

        private void names() {
            name(NAME);
            for (int i = 0; i < tokens.count && at(COMMA); i++) {
                advance();
                name(NAME);
            }
        }

        private long wholeNumber() {
            long number = tokens.value[next];
            if (at(CONSTANT) && tokens.arg[next] == WHOLE) {
                advance();
                return number;
            }
            fail();
            return 0;
        }

        private void join(int place) {
            tableOf(JOIN, place);
            expect(ON);
            name(NAME);
            expect(LIKE);
            name(THEIRS);
            emit(MATCH, place, 0);
        }

        private void over(int place) {
            int table = tokens.arg[next];
            expect(TABLE);
            expect(AT);
            program.add(OVER, place, table, wholeNumber());
        }

        private void group(int place) {
            if (at(COLUMN)) {
                names();
            }
            expect(COLON);
            emit(GROUP, place, 0);
            fold();
            for (int i = 0; i < tokens.count && at(COMMA); i++) {
                advance();
                fold();
            }
            emit(GROUPED, place, 0);
        }

        private void fold() {
            int word = code();
            int place = here();
            if (word == COUNT) {
                advance();
            } else if (word == SUM || word == MAX || word == MIN || word == LAST || word == ANY) {
                advance();
                open(LEFT_PAREN);
                ex();
                close(RIGHT_PAREN);
            } else {
                fail();
            }
            emit(FOLD, place, word);
        }

        private void open(int bracket) {
            if (depth >= DEEPEST || !at(bracket)) {
                fail();
            } else {
                advance();
                depth++;
            }
        }

        private void close(int bracket) {
            depth--;
            if (at(bracket)) {
                advance();
            } else {
                fail();
            }
        }

        private void ex() {
            both();
            for (int i = 0; i < tokens.count && at(OR); i++) {
                int place = here();
                advance();
                both();
                emit(OR, place, 0);
            }
        }

        private void both() {
            not();
            for (int i = 0; i < tokens.count && at(AND); i++) {
                int place = here();
                advance();
                not();
                emit(AND, place, 0);
            }
        }

        private void not() {
            int first = next;
            int nots = repeated(NOT);
            compared();
            for (int i = first + nots - 1; i >= first; i--) {
                emit(NOT, tokens.place[i], 0);
            }
        }

        /** Passes over a sign that may stand several times: how often it does. */
        private int repeated(int code) {
            int n = 0;
            while (n < MOST_SIGNS && at(code)) {
                advance();
                n++;
            }
            if (at(code)) {
                fail();
            }
            return n;
        }

        private void compared() {
            sum();
            int op = code();
            if (failedAt == NONE && op >= LIKE && op <= MORE_OR_LIKE) {
                int place = here();
                advance();
                sum();
                emit(op, place, 0);
            }
        }

        private void sum() {
            term();
            for (int i = 0; i < tokens.count && (at(PLUS) || at(MINUS)); i++) {
                int op = code();
                int place = here();
                advance();
                term();
                emit(op, place, 0);
            }
        }

        private void term() {
            minus();
            for (int i = 0; i < tokens.count && (at(TIMES) || at(SLASH) || at(PERCENT)); i++) {
                int op = code();
                int place = here();
                advance();
                minus();
                emit(op, place, 0);
            }
        }

        private void minus() {
            int first = next;
            int signs = repeated(MINUS);
            one();
            for (int i = 0; i < tokens.count && at(LEFT_BRACKET); i++) {
                int place = here();
                open(LEFT_BRACKET);
                ex();
                close(RIGHT_BRACKET);
                emit(LEFT_BRACKET, place, 0);
            }
            for (int i = first + signs - 1; i >= first; i--) {
                emit(NEGATE, tokens.place[i], 0);
            }
        }

        private void one() {
            int code = code();
            if (failedAt != NONE) {
                return;
            }
            if (code == CONSTANT || code == COLUMN || code == NIL || code == ROW) {
                program.add(code, here(), tokens.arg[next], tokens.value[next]);
                advance();
            } else if (code == LEFT_PAREN) {
                open(LEFT_PAREN);
                ex();
                close(RIGHT_PAREN);
            } else if (code >= TO_TINY) {
                call(code);
            } else {
                fail();
            }
        }

        private void call(int function) {
            int place = here();
            advance();
            open(LEFT_PAREN);
            int guard = program.count;
            if (function == SAFE) {
                emit(SAFE, place, 0);
            }
            ex();
            int most = Program.operands(function);
            for (int i = 1; i < most && failedAt == NONE; i++) {
                expect(COMMA);
                int skip = program.count;
                if (function == SAFE) {
                    emit(SKIP, place, 0);
                    program.aim(guard);
                }
                ex();
                if (function == SAFE) {
                    program.aim(skip);
                }
            }
            close(RIGHT_PAREN);
            if (function != SAFE) {
                emit(function, place, 0);
            }
        }
    }

    /** The operators and functions of expressions, each worked out for all rows at once. */
    private static final class Operators {
        final Ledger ledger = new Ledger();
        private final Keys left = new Keys();
        private final Keys right = new Keys();
        private final long[] a = new long[MOST_ROWS];
        private final long[] b = new long[MOST_ROWS];
        private int rows;

        /** A constant, nil or row; null with a FAULT. */
        Column fixed(int op, int kindOfConstant, long held, int rows) {
            int kind = op == NIL ? BOXES : op == ROW ? WHOLE : kindOfConstant;
            if (!ledger.pay(rows * Column.price(kind))) {
                return null;
            }
            Column out = new Column(kind, rows);
            for (int r = 0; r < rows && op != NIL; r++) {
                if (kind == TEXTS) {
                    out.setBox(r, OF_TEXT, held);
                } else {
                    out.v[r] = op == ROW ? r : held;
                }
            }
            return out;
        }

        /** What an operator gives; null with a FAULT. One of fewer operands has x for the others. */
        Column work(int op, Column x, Column y, Column z, int rows) {
            this.rows = rows;
            if (!ledger.pay(rows * price(op, x, y))) {
                return null;
            }
            if (op >= PLUS && op <= PERCENT) {
                return reckoned(op, x, y);
            }
            if (op == LIKE || op == UNLIKE) {
                return likened(op, x, y);
            }
            if (op >= LESS && op <= MORE_OR_LIKE) {
                return ordered(op, x, y);
            }
            if (op >= OR && op <= NOT) {
                return logical(op, x, y);
            }
            if (op >= TO_TINY && op <= TO_REAL) {
                return made(op - TO_TINY, x);
            }
            if (op >= FLOOR && op <= BITS) {
                return shaped(op, x);
            }
            return workOther(op, x, y, z);
        }

        private Column workOther(int op, Column x, Column y, Column z) {
            switch (op) {
                case NEGATE:
                    return negated(x);
                case LEFT_BRACKET:
                    return itemAt(x, y);
                case ABS:
                    return sized(x);
                case FROM:
                    return fromBits(x);
                case MISSING:
                    return missing(x);
                case LEN:
                    return lengths(x);
                case LIST:
                    return newLists(x);
                case BOX:
                    return boxes(x);
                case PRIOR:
                    return prior(x);
                case RUN:
                    return running(x);
                case MAX:
                case MIN:
                    return extremes(op, x, y);
                case COPY:
                    return signed(x, y);
                case SCALB:
                    return scaled(x, y);
                case CAT:
                    return joined(x, y);
                case MAD:
                    return multipliedAndAdded(x, y, z);
                case IF:
                    return chosen(x, y, z);
                default:
                    return changedLists(x, y, z);
            }
        }

        private static int price(int op, Column x, Column y) {
            switch (op) {
                case LIST:
                case WITH:
                case CAT:
                case BOX:
                    return BOX_PRICE;
                case PRIOR:
                    return Column.price(x.kind);
                case IF:
                    return Column.price(y.kind);
                default:
                    return 1;
            }
        }

        private Column failed(int fault, int row) {
            ledger.fail(fault, row);
            return null;
        }

        /** Fails if the operands' kinds are wrong. */
        private boolean mismatch(boolean wrong) {
            return wrong && !ledger.fail(OTHER_KIND, NONE);
        }

        /** An operand that is AWAY is missed at its first row. */
        private boolean isThere(Column c) {
            return !c.away || rows == 0 || ledger.fail(MISSED, 0);
        }

        /** Whether all elements of an operand are numbers, boxed ones too. */
        private boolean hasNumbers(Column c) {
            for (int r = 0; r < rows && Column.isBoxed(c.kind); r++) {
                if (c.sorts[r] == OF_NOTHING) {
                    return ledger.fail(MISSED, r);
                }
                if (c.sorts[r] == OF_TEXT) {
                    return ledger.fail(OTHER_KIND, r);
                }
            }
            return true;
        }

        private boolean hasLists(Column c) {
            if (!isThere(c)) {
                return false;
            }
            for (int r = 0; r < rows; r++) {
                if (c.lists[r] == null) {
                    return ledger.fail(MISSED, r);
                }
            }
            return true;
        }

        /** Makes the numbers of an operand of a kind. */
        private boolean make(Column c, int kind, long[] into) {
            if (!isThere(c) || !hasNumbers(c)) {
                return false;
            }
            boolean boxed = Column.isBoxed(c.kind);
            for (int r = 0; r < rows; r++) {
                into[r] = boxed ? Column.converted(c.realOf(r), REAL, kind)
                        : Column.converted(c.v[r], c.kind, kind);
            }
            return true;
        }

        private static boolean isIndex(int kind) {
            return kind <= WHOLE;
        }

        private static boolean isPlace(long i, int[] list) {
            return i >= 0 && i < list.length;
        }

        private Column reckoned(int op, Column x, Column y) {
            if (!Column.isNumber(x.kind) || !Column.isNumber(y.kind)) {
                return failed(OTHER_KIND, NONE);
            }
            int kind = Column.together(x.kind, y.kind);
            if (!make(x, kind, a) || !make(y, kind, b)) {
                return null;
            }
            Column out = new Column(kind, rows);
            for (int r = 0; r < rows; r++) {
                if (kind > LONG) {
                    out.v[r] = Reals.reckon(op, a[r], b[r], kind == SINGLE);
                } else if (op >= SLASH && b[r] == 0) {
                    return failed(BY_ZERO, r);
                } else {
                    out.v[r] = Column.lowestBits(wholly(op, a[r], b[r]), kind);
                }
            }
            return out;
        }

        private static long wholly(int op, long x, long y) {
            switch (op) {
                case PLUS:
                    return x + y;
                case MINUS:
                    return x - y;
                case TIMES:
                    return x * y;
                case SLASH:
                    return y == 0 ? 0 : x / y;
                default:
                    return y == 0 ? 0 : x % y;
            }
        }

        private Column negated(Column x) {
            if (!Column.isNumber(x.kind)) {
                return failed(OTHER_KIND, NONE);
            }
            int kind = Column.together(x.kind, x.kind);
            if (!make(x, kind, a)) {
                return null;
            }
            Column out = new Column(kind, rows);
            for (int r = 0; r < rows; r++) {
                out.v[r] = kind > LONG ? Reals.negated(a[r]) : Column.lowestBits(-a[r], kind);
            }
            return out;
        }

        private Column likened(int op, Column x, Column y) {
            if (mismatch(!Keys.canBeLike(x.kind, y.kind)) || !isThere(x) || !isThere(y)) {
                return null;
            }
            int kind = Column.together(x.kind, y.kind);
            left.fill(x, kind, rows);
            right.fill(y, kind, rows);
            Column out = new Column(FLAG, rows);
            for (int r = 0; r < rows; r++) {
                out.v[r] = left.alike(r, right, r) == (op == LIKE) ? 1 : 0;
            }
            return out;
        }

        private Column ordered(int op, Column x, Column y) {
            if (!Column.isNumber(x.kind) || !Column.isNumber(y.kind)) {
                return failed(OTHER_KIND, NONE);
            }
            boolean bothBoxed = Column.isBoxed(x.kind) && Column.isBoxed(y.kind);
            if (!isThere(x) || !bothBoxed && !hasNumbers(x)) {
                return null;
            }
            if (!isThere(y) || !bothBoxed && !hasNumbers(y)) {
                return null;
            }
            int kind = Column.together(x.kind, y.kind);
            left.fill(x, kind, rows);
            right.fill(y, kind, rows);
            Column out = new Column(FLAG, rows);
            for (int r = 0; r < rows; r++) {
                if (bothBoxed && !canBeOrdered(r)) {
                    return null;
                }
                out.v[r] = isOrdered(op, r) ? 1 : 0;
            }
            return out;
        }

        private boolean canBeOrdered(int r) {
            if (left.rank[r] == Keys.NOTHING || right.rank[r] == Keys.NOTHING) {
                return ledger.fail(MISSED, r);
            }
            boolean text = left.rank[r] == Keys.TEXT;
            return text == (right.rank[r] == Keys.TEXT) || ledger.fail(OTHER_KIND, r);
        }

        private boolean isOrdered(int op, int r) {
            if (left.rank[r] == Keys.NOT_A_NUMBER || right.rank[r] == Keys.NOT_A_NUMBER) {
                return false;
            }
            int order = Long.compare(left.key[r], right.key[r]);
            switch (op) {
                case LESS:
                    return order < 0;
                case MORE:
                    return order > 0;
                case LESS_OR_LIKE:
                    return order <= 0;
                default:
                    return order >= 0;
            }
        }

        private Column logical(int op, Column x, Column y) {
            if (mismatch(x.kind != FLAG || y.kind != FLAG) || !isThere(x) || !isThere(y)) {
                return null;
            }
            Column out = new Column(FLAG, rows);
            for (int r = 0; r < rows; r++) {
                long one = x.v[r];
                long other = y.v[r];
                out.v[r] = op == OR ? one | other : op == AND ? one & other : 1 - one;
            }
            return out;
        }

        private Column made(int kind, Column x) {
            if (mismatch(!Column.isNumber(x.kind) && x.kind != FLAG) || !make(x, kind, a)) {
                return null;
            }
            Column out = new Column(kind, rows);
            System.arraycopy(a, 0, out.v, 0, rows);
            return out;
        }

        private Column sized(Column x) {
            if (mismatch(!Column.isPlain(x.kind)) || !isThere(x)) {
                return null;
            }
            int kind = Column.together(x.kind, x.kind);
            Column out = new Column(kind, rows);
            for (int r = 0; r < rows; r++) {
                out.v[r] = kind > LONG ? Reals.magnitude(x.v[r])
                        : Column.lowestBits(Math.abs(x.v[r]), kind);
            }
            return out;
        }

        private Column extremes(int op, Column x, Column y) {
            if (!Column.isPlain(x.kind) || !Column.isPlain(y.kind)) {
                return failed(OTHER_KIND, NONE);
            }
            int kind = Column.together(x.kind, y.kind);
            if (!make(x, kind, a) || !make(y, kind, b)) {
                return null;
            }
            Column out = new Column(kind, rows);
            for (int r = 0; r < rows; r++) {
                out.v[r] = Column.extreme(op, a[r], b[r], kind);
            }
            return out;
        }

        private Column shaped(int op, Column x) {
            if (mismatch(!Column.isFloating(x.kind)) || !isThere(x)) {
                return null;
            }
            boolean single = x.kind == SINGLE;
            int kind = x.kind;
            if (op == ROUND || op == BITS) {
                kind = single ? WHOLE : LONG;
            } else if (op == EXPO) {
                kind = WHOLE;
            }
            Column out = new Column(kind, rows);
            for (int r = 0; r < rows; r++) {
                out.v[r] = Reals.shaped(op, x.v[r], single);
            }
            return out;
        }

        private Column fromBits(Column x) {
            if (mismatch(x.kind != WHOLE && x.kind != LONG) || !isThere(x)) {
                return null;
            }
            Column out = new Column(x.kind == WHOLE ? SINGLE : REAL, rows);
            for (int r = 0; r < rows; r++) {
                out.v[r] = Column.fromBits(x.v[r], out.kind);
            }
            return out;
        }

        private Column signed(Column x, Column y) {
            if (mismatch(!Column.isFloating(x.kind) || !Column.isFloating(y.kind))
                    || !isThere(x) || !isThere(y)) {
                return null;
            }
            Column out = new Column(Column.together(x.kind, y.kind), rows);
            for (int r = 0; r < rows; r++) {
                out.v[r] = Reals.withSign(x.v[r], y.v[r]);
            }
            return out;
        }

        private Column scaled(Column x, Column n) {
            if (mismatch(!Column.isFloating(x.kind) || !isIndex(n.kind))
                    || !isThere(x) || !isThere(n)) {
                return null;
            }
            Column out = new Column(x.kind, rows);
            for (int r = 0; r < rows; r++) {
                out.v[r] = Reals.scaled(x.v[r], n.v[r], x.kind == SINGLE);
            }
            return out;
        }

        private Column multipliedAndAdded(Column x, Column y, Column z) {
            boolean floating = Column.isFloating(x.kind) && Column.isFloating(y.kind);
            if (mismatch(!floating || !Column.isFloating(z.kind))
                    || !isThere(x) || !isThere(y) || !isThere(z)) {
                return null;
            }
            Column out = new Column(Math.max(x.kind, Math.max(y.kind, z.kind)), rows);
            boolean single = out.kind == SINGLE;
            for (int r = 0; r < rows; r++) {
                long product = Reals.reckon(TIMES, x.v[r], y.v[r], single);
                out.v[r] = Reals.reckon(PLUS, product, z.v[r], single);
            }
            return out;
        }

        private Column missing(Column x) {
            if (!isThere(x)) {
                return null;
            }
            Column out = new Column(FLAG, rows);
            for (int r = 0; r < rows; r++) {
                out.v[r] = x.isNothing(r) ? 1 : 0;
            }
            return out;
        }

        private Column boxes(Column x) {
            if (mismatch(!Column.isNumber(x.kind)) || !isThere(x)) {
                return null;
            }
            boolean boxed = Column.isBoxed(x.kind);
            Column out = new Column(boxed ? x.kind : NUMBERS, rows);
            for (int r = 0; r < rows; r++) {
                if (boxed) {
                    out.set(r, x, r);
                } else if (isIndex(x.kind)) {
                    out.setBox(r, OF_WHOLE, x.v[r]);
                } else {
                    out.setBox(r, OF_REAL, Column.converted(x.v[r], x.kind, REAL));
                }
            }
            return out;
        }

        private Column prior(Column x) {
            if (!isThere(x)) {
                return null;
            }
            Column out = new Column(x.kind, rows);
            for (int r = 0; r < rows; r++) {
                out.set(r, x, Math.max(r - 1, 0));
            }
            return out;
        }

        private Column running(Column x) {
            if (mismatch(!Column.isPlain(x.kind)) || !isThere(x)) {
                return null;
            }
            int kind = Column.together(x.kind, x.kind);
            Column out = new Column(kind, rows);
            for (int r = 0; r < rows; r++) {
                if (r == 0) {
                    out.v[r] = x.v[r];
                } else if (kind > LONG) {
                    out.v[r] = Reals.reckon(PLUS, out.v[r - 1], x.v[r], kind == SINGLE);
                } else {
                    out.v[r] = Column.lowestBits(out.v[r - 1] + x.v[r], kind);
                }
            }
            return out;
        }

        private Column chosen(Column x, Column y, Column z) {
            boolean plain = Column.isPlain(y.kind) && Column.isPlain(z.kind);
            boolean boxed = Column.isBoxed(y.kind) && Column.isBoxed(z.kind);
            if (mismatch(x.kind != FLAG || y.kind != z.kind && !plain && !boxed)
                    || !isThere(x) || !isThere(y) || !isThere(z)) {
                return null;
            }
            int kind = y.kind;
            if (y.kind != z.kind) {
                kind = boxed ? BOXES : Column.together(y.kind, z.kind);
            }
            Column out = new Column(kind, rows);
            for (int r = 0; r < rows; r++) {
                Column from = x.v[r] != 0 ? y : z;
                if (plain) {
                    out.v[r] = Column.converted(from.v[r], from.kind, kind);
                } else {
                    out.set(r, from, r);
                }
            }
            return out;
        }

        private Column itemAt(Column x, Column i) {
            if (mismatch(x.kind != LISTS || !isIndex(i.kind)) || !hasLists(x) || !isThere(i)) {
                return null;
            }
            Column out = new Column(WHOLE, rows);
            for (int r = 0; r < rows; r++) {
                if (!isPlace(i.v[r], x.lists[r])) {
                    return failed(BEYOND, r);
                }
                out.v[r] = x.lists[r][(int) i.v[r]];
            }
            return out;
        }

        private Column lengths(Column x) {
            if (mismatch(x.kind != LISTS) || !hasLists(x)) {
                return null;
            }
            Column out = new Column(WHOLE, rows);
            for (int r = 0; r < rows; r++) {
                out.v[r] = x.lists[r].length;
            }
            return out;
        }

        private Column newLists(Column n) {
            if (mismatch(!isIndex(n.kind)) || !isThere(n)) {
                return null;
            }
            Column out = new Column(LISTS, rows);
            for (int r = 0; r < rows; r++) {
                if (n.v[r] < 0) {
                    return failed(BELOW_ZERO, r);
                }
                if (n.v[r] > LONGEST_LIST) {
                    return failed(NO_ROOM, r);
                }
                out.lists[r] = new int[(int) n.v[r]];
            }
            return out;
        }

        private Column changedLists(Column x, Column i, Column v) {
            if (mismatch(x.kind != LISTS || !isIndex(i.kind) || !isIndex(v.kind))
                    || !hasLists(x) || !isThere(i) || !isThere(v)) {
                return null;
            }
            Column out = new Column(LISTS, rows);
            for (int r = 0; r < rows; r++) {
                if (!isPlace(i.v[r], x.lists[r])) {
                    return failed(BEYOND, r);
                }
                out.lists[r] = Column.listWith(x.lists[r], (int) i.v[r], (int) v.v[r]);
            }
            return out;
        }

        private Column joined(Column x, Column y) {
            if (mismatch(x.kind != LISTS || y.kind != LISTS) || !hasLists(x) || !hasLists(y)) {
                return null;
            }
            Column out = new Column(LISTS, rows);
            for (int r = 0; r < rows; r++) {
                int[] one = x.lists[r];
                int[] other = y.lists[r];
                if (one.length + other.length > LONGEST_LIST) {
                    return failed(NO_ROOM, r);
                }
                int[] whole = Arrays.copyOf(one, one.length + other.length);
                System.arraycopy(other, 0, whole, one.length, other.length);
                out.lists[r] = whole;
            }
            return out;
        }
    }

    /** The groups of a step, and its folds. */
    private static final class Grouping {
        /** The first row of the group that a row is in. */
        private int[] leader = new int[MOST_ROWS];
        private int[] refined = new int[MOST_ROWS];
        final int[] leaders = new int[MOST_ROWS];
        int groups;
        private final int[] words = new int[TAPE];
        private final Column[] parts = new Column[TAPE];
        int folds;
        private final Keys keys = new Keys();
        private int rows;

        /** All rows are one group. */
        void begin(int rows) {
            this.rows = rows;
            folds = 0;
            Arrays.fill(leader, 0);
        }

        /** Parts the groups by a column more. */
        void refine(Column c) {
            keys.fill(c, c.kind, rows);
            for (int r = 0; r < rows; r++) {
                refined[r] = r;
                for (int q = 0; q < r && refined[r] == r; q++) {
                    if (leader[q] == leader[r] && isSame(c, q, r)) {
                        refined[r] = q;
                    }
                }
            }
            int[] old = leader;
            leader = refined;
            refined = old;
        }

        private boolean isSame(Column c, int q, int r) {
            return keys.alike(q, keys, r)
                    || Column.isFloating(c.kind) && c.isNothing(q) && c.isNothing(r);
        }

        void settle() {
            groups = 0;
            for (int r = 0; r < rows; r++) {
                if (leader[r] == r) {
                    leaders[groups] = r;
                    groups++;
                }
            }
        }

        static boolean canFold(int word, int kind) {
            if (word == ANY) {
                return kind == FLAG;
            }
            return word == LAST || Column.isPlain(kind);
        }

        /** One fold more, of a part that isn't looked at for count. */
        void addFold(int word, Column part) {
            if (folds < TAPE) {
                words[folds] = word;
                parts[folds] = part;
                folds++;
            }
        }

        int foldKind(int fold) {
            int kind = parts[fold].kind;
            switch (words[fold]) {
                case COUNT:
                    return WHOLE;
                case SUM:
                    return Column.isFloating(kind) ? REAL : LONG;
                case MAX:
                case MIN:
                    return Column.together(kind, kind);
                default:
                    return kind;
            }
        }

        Column folded(int fold) {
            int word = words[fold];
            Column part = parts[fold];
            Column out = new Column(foldKind(fold), groups);
            for (int g = 0; g < groups; g++) {
                for (int r = leaders[g]; r < rows; r++) {
                    if (leader[r] != leaders[g]) {
                        continue;
                    }
                    if (word == LAST) {
                        out.set(g, part, r);
                    } else if (word == COUNT) {
                        out.v[g]++;
                    } else {
                        boolean isFirst = r == leaders[g] && word != SUM;
                        out.v[g] = isFirst ? part.v[r] : more(word, out.v[g], part.v[r], out.kind);
                    }
                }
            }
            return out;
        }

        private static long more(int word, long sofar, long v, int kind) {
            switch (word) {
                case SUM:
                    return kind == REAL ? Reals.add(sofar, v) : sofar + v;
                case ANY:
                    return sofar | v;
                default:
                    return Column.extreme(word, sofar, v, kind);
            }
        }
    }

    /** Does a program: its WORKING TABLE, the stack of its operands and the steps. */
    private static final class Machine {
        final Table[] tables = new Table[TABLES + 1];
        final Ledger ledger;
        private final Operators operators = new Operators();
        private final Grouping grouping = new Grouping();
        private final Table work = new Table();
        private Table other = new Table();
        private final Keys mine = new Keys();
        private final Keys theirs = new Keys();
        private final int[] picks = new int[MOST_ROWS];
        private final int[] otherPicks = new int[MOST_ROWS];
        private final Column[] stack = new Column[TAPE];
        private int top;
        private final int[] safeAt = new int[Parser.DEEPEST + 1];
        private final int[] safeTop = new int[Parser.DEEPEST + 1];
        private int safes;
        private final int[] named = new int[TAPE];
        private int names;

        Machine() {
            ledger = operators.ledger;
            for (int t = 0; t < tables.length; t++) {
                tables[t] = new Table();
            }
        }

        void run(Program program) {
            top = 0;
            safes = 0;
            names = 0;
            int at = 0;
            // An instruction never goes back, so none is done twice.
            for (int done = 0; done < program.count && at < program.count; done++) {
                int op = program.op[at];
                int arg = program.arg[at];
                int operands = Program.operands(op);
                int next = at + 1;
                if (op == SAFE) {
                    guard(arg);
                } else if (op == SKIP) {
                    safes--;
                    next = arg;
                } else if (op == COLUMN) {
                    push(columnOf(work, arg));
                } else if (op == CONSTANT || op == NIL || op == ROW) {
                    push(operators.fixed(op, arg, program.value[at], work.rows));
                } else if (operands > 0 && operands <= top) {
                    top -= operands;
                    Column x = stack[top];
                    Column y = stack[operands > 1 ? top + 1 : top];
                    Column z = stack[operands > 2 ? top + 2 : top];
                    push(operators.work(op, x, y, z, work.rows));
                } else {
                    step(op, arg, program.value[at]);
                }
                if (ledger.fault != 0) {
                    ledger.place = program.place[at];
                    next = rescued(program.count);
                }
                at = next;
            }
            ledger.letGo();
            if (ledger.fault == 0) {
                tables[RESULT].share(work);
            }
        }

        private void guard(int address) {
            if (safes < safeAt.length) {
                safeAt[safes] = address;
                safeTop[safes] = top;
                safes++;
            }
        }

        /** Where a program goes on behind a FAULT: at a safe() that takes it up, or at its end. */
        private int rescued(int end) {
            if (safes == 0 || !ledger.takeUp()) {
                return end;
            }
            ledger.place = NONE;
            safes--;
            top = safeTop[safes];
            return safeAt[safes];
        }

        private void push(Column c) {
            if (c != null && top < stack.length) {
                stack[top] = c;
                top++;
            }
        }

        private Column pop() {
            if (top > 0) {
                top--;
            }
            return stack[top];
        }

        /** A column that a query names; null with a FAULT when there is none such. */
        private Column columnOf(Table table, int column) {
            Column c = table.get(column);
            if (c == null) {
                ledger.fail(BEYOND, NONE);
            }
            return c;
        }

        private void name(Table table, int column) {
            if (columnOf(table, column) != null && names < named.length) {
                named[names] = column;
                names++;
            }
        }

        private void step(int op, int arg, long value) {
            switch (op) {
                case START:
                    start(arg);
                    break;
                case WHERE:
                    where(pop());
                    break;
                case LET:
                    if (work.width >= WIDEST) {
                        ledger.fail(NO_ROOM, NONE);
                    }
                    break;
                case ADD:
                    work.append(pop());
                    break;
                case NAME:
                    name(work, arg);
                    break;
                case KEEP:
                    keep();
                    break;
                case JOIN:
                    join(arg);
                    break;
                case THEIRS:
                    name(other, arg);
                    break;
                case MATCH:
                    match();
                    break;
                case GROUP:
                    group();
                    break;
                case FOLD:
                    fold(arg);
                    break;
                case GROUPED:
                    finishGroups();
                    break;
                case SORT:
                    sortRows(arg == 1);
                    break;
                case FIRST:
                    firstRows(value);
                    break;
                case INTO:
                    into(arg);
                    break;
                case OVER:
                    over(arg, (int) value);
                    break;
                default:
                    break;
            }
        }

        /** Holds a table whose ROWS must not be below 0. */
        private boolean holdFull(int table) {
            ledger.hold(table);
            return tables[table].rows >= 0 || ledger.fail(BELOW_ZERO, NONE);
        }

        private void start(int table) {
            if (holdFull(table) && ledger.pay(tables[table].price(tables[table].rows))) {
                work.becomeTwinOf(tables[table]);
            }
        }

        /** Moves the first n picks of the WORKING TABLE into new columns. */
        private void movePicks(int n) {
            if (!ledger.pay(work.price(n))) {
                return;
            }
            if (n > 0 && work.hasAway()) {
                ledger.fail(MISSED, NONE);
                return;
            }
            work.pick(picks, n);
        }

        private void where(Column flags) {
            if (flags.kind != FLAG) {
                ledger.fail(OTHER_KIND, NONE);
                return;
            }
            if (flags.away && work.rows > 0) {
                ledger.fail(MISSED, 0);
                return;
            }
            int n = 0;
            for (int r = 0; r < work.rows; r++) {
                if (flags.v[r] != 0) {
                    picks[n] = r;
                    n++;
                }
            }
            movePicks(n);
        }

        private void keep() {
            if (names > WIDEST) {
                ledger.fail(NO_ROOM, NONE);
                return;
            }
            int base = top;
            for (int i = 0; i < names; i++) {
                push(work.columns[named[i]]);
            }
            work.renew(work.rows);
            for (int i = 0; i < names; i++) {
                work.append(stack[base + i]);
            }
            top = base;
            names = 0;
        }

        private void join(int table) {
            other = tables[table];
            holdFull(table);
        }

        private void match() {
            Column one = work.columns[named[0]];
            Column second = other.columns[named[1]];
            names = 0;
            if (!Keys.canBeLike(one.kind, second.kind)) {
                ledger.fail(OTHER_KIND, NONE);
                return;
            }
            if (work.width + other.width > WIDEST) {
                ledger.fail(NO_ROOM, NONE);
                return;
            }
            if ((one.away || second.away) && work.rows > 0 && other.rows > 0) {
                ledger.fail(MISSED, NONE);
                return;
            }
            int kind = Column.together(one.kind, second.kind);
            mine.fill(one, kind, work.rows);
            theirs.fill(second, kind, other.rows);
            int n = pairs();
            if (ledger.fault == 0) {
                movePairs(n);
            }
        }

        /** Picks the pairs of rows that are =: how many. */
        private int pairs() {
            int n = 0;
            for (int r = 0; r < work.rows; r++) {
                for (int q = 0; q < other.rows; q++) {
                    if (!mine.alike(r, theirs, q)) {
                        continue;
                    }
                    if (n >= MOST_ROWS) {
                        ledger.fail(NO_ROOM, NONE);
                        return n;
                    }
                    picks[n] = r;
                    otherPicks[n] = q;
                    n++;
                }
            }
            return n;
        }

        private void movePairs(int n) {
            if (!ledger.pay(work.price(n) + other.price(n))) {
                return;
            }
            if (n > 0 && (work.hasAway() || other.hasAway())) {
                ledger.fail(MISSED, NONE);
                return;
            }
            work.pick(picks, n);
            for (int c = 0; c < other.width; c++) {
                work.append(other.columns[c].picked(otherPicks, n));
            }
        }

        private void group() {
            grouping.begin(work.rows);
            for (int i = 0; i < names; i++) {
                Column c = work.columns[named[i]];
                if (c.away && work.rows > 0) {
                    ledger.fail(MISSED, NONE);
                    return;
                }
                grouping.refine(c);
            }
            grouping.settle();
        }

        private void fold(int word) {
            if (word == COUNT) {
                grouping.addFold(word, new Column(WHOLE, 0));
                return;
            }
            Column part = pop();
            if (!Grouping.canFold(word, part.kind)) {
                ledger.fail(OTHER_KIND, NONE);
            } else if (part.away && work.rows > 0) {
                ledger.fail(MISSED, 0);
            } else {
                grouping.addFold(word, part);
            }
        }

        private void finishGroups() {
            if (names + grouping.folds > WIDEST) {
                ledger.fail(NO_ROOM, NONE);
                return;
            }
            int price = 0;
            for (int i = 0; i < names; i++) {
                price += Column.price(work.columns[named[i]].kind);
            }
            for (int f = 0; f < grouping.folds; f++) {
                price += Column.price(grouping.foldKind(f));
            }
            if (!ledger.pay(price * grouping.groups)) {
                return;
            }
            keep();
            work.pick(grouping.leaders, grouping.groups);
            for (int f = 0; f < grouping.folds; f++) {
                work.append(grouping.folded(f));
            }
        }

        private void sortRows(boolean down) {
            Column c = work.columns[named[0]];
            names = 0;
            if (c.kind == LISTS) {
                ledger.fail(OTHER_KIND, NONE);
                return;
            }
            if (c.away && work.rows > 1) {
                ledger.fail(MISSED, NONE);
                return;
            }
            mine.fill(c, c.kind, work.rows);
            for (int r = 0; r < work.rows; r++) {
                int at = r;
                while (at > 0 && mine.isAhead(r, picks[at - 1], down)) {
                    picks[at] = picks[at - 1];
                    at--;
                }
                picks[at] = r;
            }
            movePicks(work.rows);
        }

        private void firstRows(long most) {
            int n = (int) Math.min(most, work.rows);
            for (int r = 0; r < n; r++) {
                picks[r] = r;
            }
            movePicks(n);
        }

        private void into(int table) {
            ledger.hold(table);
            if (work.width > MOST_COLUMNS) {
                ledger.fail(NO_ROOM, NONE);
            } else if (ledger.pay(work.price(work.rows))) {
                tables[table].becomeTwinOf(work);
            }
        }

        private void over(int table, int at) {
            if (!holdFull(table)) {
                return;
            }
            for (int c = 0; c < work.width; c++) {
                Column target = columnOf(tables[table], c);
                if (target == null) {
                    return;
                }
                Column source = work.columns[c];
                int fault = target.refusal(at, source, 0, work.rows);
                if (fault != 0) {
                    ledger.fail(fault, NONE);
                    return;
                }
                int received = target.receive(at, source, 0, work.rows);
                if (received < work.rows) {
                    ledger.fail(NO_FIT, received);
                    return;
                }
            }
        }
    }
}
