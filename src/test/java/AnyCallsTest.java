import java.util.Random;

/** No call throws, whatever its arguments are and whatever stands in a query (all promises). */
public final class AnyCallsTest {
    private static final Checks CHECKS = new Checks("AnyCallsTest");
    private static final String[] PIECES = {"from", "where", "let", "keep", "join", "on", "group", "sort",
        "down", "first", "into", "over", "at", "count", "sum", "max", "min", "last", "any", "or", "and",
        "not", "nil", "row", "tiny", "single", "real", "abs", "floor", "round", "bits", "missing", "len",
        "list", "box", "prior", "run", "copy", "scalb", "cat", "safe", "mad", "if", "with", "t0", "t1",
        "t5", "t6", "a", "b", "c", "p", "q", "0", "1", "7l", "2.5", "0.1f", "1234567890", "1.2345",
        "'ab'", "''", "'", "(", ")", "[", "]", ",", ":", "+", "-", "*", "/", "%", "=", "#", "<", "<=",
        ">", ">=", "!", "~"};
    private static final int[] INTS = {0, 1, 2, 3, 4, 5, 6, 7, 8, 9, 11, 12, 20, 21, 60, 61, -1, -2, -60,
        300, Integer.MAX_VALUE, Integer.MIN_VALUE};

    private final Random random;
    private final CountedHouse house = new CountedHouse();
    private final ColumnHouse x = house.x;
    private int credit = 400_000;

    private AnyCallsTest(long seed) {
        random = new Random(seed);
    }

    public static void main(String[] args) {
        int runs = args.length > 0 ? Integer.parseInt(args[0]) : 1500;
        for (int seed = 0; seed < runs; seed++) {
            new AnyCallsTest(seed).run(seed);
        }
        CHECKS.end();
    }

    private int any(int n) {
        return random.nextInt(n);
    }

    private int some() {
        return any(3) == 0 ? INTS[any(INTS.length)] : any(7);
    }

    private void run(int seed) {
        // No call of these makes more than 17, with credit().
        for (int i = 0; house.has(20); i++) {
            try {
                call();
            } catch (RuntimeException e) {
                CHECKS.holds("seed " + seed + ", call " + i + ": " + e, false);
                return;
            }
            int left = house.credit();
            CHECKS.holds("CREDIT never grows and is never below 0", left >= 0 && left <= credit);
            credit = left;
        }
    }

    private void call() {
        house.lend(1);
        switch (any(18)) {
            case 0:
                x.table(some(), any(2) == 0 ? some() : any(5));
                break;
            case 1:
            case 2:
            case 3:
                x.column(any(4), any(13));
                break;
            case 4:
                x.put(some(), some(), some(), any(2) == 0 ? some() : random.nextLong());
                break;
            case 5:
                x.box(some(), some(), some(), any(5), random.nextLong());
                break;
            case 6:
                x.item(some(), some(), some(), some(), random.nextInt());
                break;
            case 7:
                x.away(some(), some(), any(4) == 0);
                break;
            case 8:
                x.copy(some(), some(), some(), some(), some(), some(), some());
                break;
            case 9:
                x.feed(random.nextInt(), some(), 0x61622020, some(), random.nextInt());
                break;
            case 10:
                x.ask(some());
                break;
            case 11:
                see();
                break;
            case 12:
            case 13:
                house.ask(soup());
                break;
            default:
                house.ask(nearQuery());
                break;
        }
    }

    private void see() {
        house.lend(6);
        x.fault(some());
        x.held(some());
        x.size(some(), some());
        x.kind(some(), some());
        x.cell(some(), some(), some());
        x.sort(some(), some(), some());
        x.number(some(), some(), some(), some());
    }

    private String piece() {
        return PIECES[any(PIECES.length)];
    }

    private String soup() {
        StringBuilder s = new StringBuilder("from t" + any(6));
        int n = any(30);
        for (int i = 0; i < n && s.length() < 280; i++) {
            s.append(any(4) == 0 ? "" : " ").append(piece());
        }
        return s.toString();
    }

    /** A query that reads well but for a piece in the middle of it now and then. */
    private String nearQuery() {
        String[] all = {"let a + b", "where a < b", "group a : sum(b), count", "sort b down", "first 2",
            "join t1 on a = a", "into t2", "over t1 at 0", "keep b, a, a", "let list(a)", "let box(a)",
            "let safe(a / b, c)", "let if(a = b, a, b)", "let prior(c)", "let c[a]", "let real(a) % 2.5",
            "let run(a)", "where missing(c)", "let cat(c, d)", "let with(c, a, b)", "group c:last(d)"};
        StringBuilder s = new StringBuilder("from t" + any(4));
        for (int i = any(8); i > 0 && s.length() < 250; i--) {
            s.append(' ').append(all[any(all.length)]);
            if (any(40) == 0) {
                s.append(piece());
            }
        }
        return s.toString();
    }
}
