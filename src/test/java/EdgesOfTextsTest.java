/** Boundary cases of PART 2 (tokens and grammar) and of promises 9 to 12, each beside its sentence. */
public final class EdgesOfTextsTest {
    private static final Checks CHECKS = new Checks("EdgesOfTextsTest");
    private static final int LEAST = Integer.MIN_VALUE;
    private static final int MOST = Integer.MAX_VALUE;
    private static final String ONES = "tiny sign small whole long single real abs floor ceil rint round signum sqrt "
            + "ulp next expo bits from missing len list box prior run";
    private static final String TWOS = "max min copy scalb cat safe";
    private static final String THREES = "mad if with";

    public static void main(String[] args) {
        tape();
        longestQuery();
        bytesOfQueries();
        asking();
        longestTokens();
        words();
        wholes();
        longs();
        reals();
        texts();
        signs();
        blanks();
        queriesCutOff();
        tokensThatCanNotStandThere();
        stepsOfTheGrammar();
        functions();
        nesting();
        notsAndMinuses();
        notDone();
        faultsOfTheLatest();
        holding();
        CHECKS.end();
    }

    /** Table 0: a WHOLEs, b FLAGS, c LISTS of one 0. */
    private static ColumnHouse house() {
        ColumnHouse x = new ColumnHouse();
        x.table(0, 2);
        Checks.column(x, 0, 3, 5, 7);
        Checks.column(x, 0, 7, 1, 0);
        Checks.lists(x, 0, new int[1], new int[1]);
        return x;
    }

    /** A query that can't be read from a token on: where that stands last. */
    private static void unreadableAt(String query, String token) {
        CHECKS.fault(house(), query, 9, query.lastIndexOf(token), -1);
    }

    private static void unreadable(String query, int place) {
        CHECKS.fault(house(), query, 9, place, -1);
    }

    /** A query that can be read, whatever becomes of it then. */
    private static void readable(String query) {
        ColumnHouse x = house();
        Checks.ask(x, query);
        CHECKS.holds(query + " can be read", x.fault(0) != 9);
    }

    private static void tape() {
        CHECKS.says("Up to twenty bytes come behind the tape, the highest of each int first: how many there are; "
                + "NONE when there would be more than 300.");
        ColumnHouse x = new ColumnHouse();
        for (int n = 20; n <= 300; n += 20) {
            CHECKS.due("feed", x.feed(0, -1, 0x20202020, 1, 255), n);
        }
        CHECKS.due("beyond 300", x.feed(0, 0, 0, 0, 0), -1);
        CHECKS.due("beyond 300 again", x.feed(-1, 1, 0x61616161, 0, 0), -1);
        CHECKS.due("nothing came", x.ask(301), -10);
        CHECKS.due("all 300 are there", x.ask(300), -9);
        CHECKS.due("the tape is empty then", x.feed(0, 0, 0, 0, 0), 20);
        ColumnHouse y = new ColumnHouse();
        CHECKS.due("letters", y.feed(0x66726f6d, 0x20743020, 0x6c657420, 0x27616263, 0x64272020), 20);
        CHECKS.due("in their order", y.ask(18), 0);
        CHECKS.due("a TEXT", y.kind(6, 0), 10);
    }

    private static void longestQuery() {
        CHECKS.says("QUERIES are texts of at most 300 bytes (32 to 126).");
        for (int length : new int[] {299, 300}) {
            ColumnHouse x = house();
            String even = "from t0 let " + (length == 300 ? " " : "");
            String query = even + "a+".repeat((length - even.length() - 1) / 2) + "a";
            CHECKS.due("its length", query.length(), length);
            CHECKS.gives(x, query, 3, 5 * 144, 7 * 144);
            CHECKS.fault(x, query.substring(0, length - 1) + "!", 9, length - 1, -1);
            CHECKS.fault(x, query.substring(0, length - 1) + " ", 9, length, -1);
        }
    }

    private static void bytesOfQueries() {
        CHECKS.says("QUERIES are texts of at most 300 bytes (32 to 126).");
        for (int b = 0; b < 256; b++) {
            ColumnHouse x = house();
            boolean can = b >= 32 && b <= 126 && b != '\'';
            String text = "from t0 let '" + (char) b + "'";
            CHECKS.due("byte " + b + " in a TEXT", Checks.ask(x, text), can ? 2 : -9);
            if (can) {
                CHECKS.due("it came", x.cell(6, 3, 0), b);
            }
            boolean starts = "()[],:+-*/%=#<>' ".indexOf(b) >= 0 || b >= 'a' && b <= 'z' || b >= '0' && b <= '9';
            CHECKS.due("byte " + b + " where nothing can stand", Checks.ask(x, "from " + (char) b), -9);
            CHECKS.due("its place", x.fault(1), b == ' ' ? 6 : 5);
            if (!starts) {
                CHECKS.says("a byte that begins none");
                CHECKS.fault(x, "from t0 let a " + (char) b, 9, 14, -1);
                CHECKS.fault(x, "from t0 let a" + (char) b + "+ a", 9, 13, -1);
            }
        }
    }

    private static void asking() {
        CHECKS.says("The first n bytes of the tape (which is empty then) are done as a query: how many ROWS the "
                + "RESULT has; less the FAULT by which it ended.");
        ColumnHouse x = house();
        Checks.feed(x, "from t0 first 1 !!!!");
        CHECKS.due("the first 7", x.ask(7), 2);
        CHECKS.due("the tape is empty then", x.ask(1), -10);
        Checks.feed(x, "from t0 first 1 !!!!");
        CHECKS.due("the first 15", x.ask(15), 1);
        Checks.feed(x, "from t0 first 1 !!!!");
        CHECKS.due("the first 16", x.ask(16), 1);
        Checks.feed(x, "from t0 first 1 !!!!");
        CHECKS.due("the first 17", x.ask(17), -9);
        CHECKS.due("the tape is empty then, too", x.ask(1), -10);
        Checks.feed(x, "from t0 first 1 !!!!");
        CHECKS.due("none of them", x.ask(0), -9);
        CHECKS.due("at the text's end", x.fault(1), 0);
        CHECKS.due("the tape is empty then, too", x.ask(1), -10);
        CHECKS.says("-10, doing nothing: n is below 0 or more than there are.");
        Checks.feed(x, "from t0 first 1 let ");
        for (int n : new int[] {-1, 21, LEAST, MOST, 300, 301}) {
            CHECKS.due("ask(" + n + ")", x.ask(n), -10);
        }
        CHECKS.due("the latest FAULT stays", x.fault(0), 9);
        Checks.feed(x, "a + 1");
        for (int n : new int[] {-1, 41}) {
            CHECKS.due("ask(" + n + ")", x.ask(n), -10);
        }
        CHECKS.due("the tape stays", x.ask(25), 1);
        CHECKS.due("the query is done", x.cell(6, 3, 0), 6);
        x.table(1, 60);
        CHECKS.fine(x, "from t1", 60);
        CHECKS.fine(x, "from t1 first 0", 0);
    }

    private static void longestTokens() {
        CHECKS.says("TOKENS, the longest that stand there:");
        ColumnHouse x = house();
        CHECKS.gives(x, "from t0 let a<=5", 7, 1, 0);
        CHECKS.gives(x, "from t0 let a>=7", 7, 0, 1);
        CHECKS.gives(x, "from t0 let a<-7", 7, 0, 0);
        CHECKS.gives(x, "from t0 let 1l", 4, 1, 1);
        CHECKS.gives(x, "from t0 let 1.5f", 5, Checks.single(1.5f), Checks.single(1.5f));
        CHECKS.gives(x, "from t0where(b)let(a)", 3, 5);
        CHECKS.fine(x, "from t0first 1first 1", 1);
        unreadableAt("from t0 let a = = 5", "= 5");
        unreadableAt("from t0 let a <== 5", "= 5");
        unreadableAt("from t0 let a =< 5", "< 5");
        unreadableAt("from t0 let a >< 5", "< 5");
        unreadableAt("from t0 first 1let a", "1l");
        unreadableAt("from t0 let 1let a", "et a");
        unreadableAt("from t0 let 1.5first 1", "irst");
        unreadableAt("from t0 let 1.5ffirst 1 !", "!");
        unreadableAt("from t0 sorta", "sorta");
        unreadableAt("from t0 let a1", "a1");
        unreadableAt("from t0 let 1a", "a");
        unreadableAt("fromt0", "fromt0");
    }

    private static void words() {
        CHECKS.says("WORDS a to z (digits may follow: t0)");
        CHECKS.says("table = t0 .. t5.");
        for (int t = 0; t <= 5; t++) {
            readable("from t" + t);
            readable("from t0 into t" + t);
        }
        for (String table : new String[] {"t6", "t9", "t00", "t05", "t", "tt0", "t10", "u0", "a", "0", "a0", "T0"}) {
            unreadable("from " + table, 5);
            unreadable("from t0 into " + table, 13);
            unreadable("from t0 join " + table + " on a = a", 13);
            unreadable("from t0 over " + table + " at 0", 13);
        }
        unreadable("from t 0", 5);
        CHECKS.says("column = a .. p.");
        for (char c = 'a'; c <= 'z'; c++) {
            if (c <= 'p') {
                readable("from t0 let " + c);
                readable("from t0 sort " + c);
            } else {
                unreadable("from t0 let " + c, 12);
                unreadable("from t0 sort " + c, 13);
                unreadable("from t0 keep a, " + c, 16);
            }
        }
        unreadable("from t0 let where", 12);
        for (String word : new String[] {"aa", "ab", "count", "sum", "last", "any", "on", "at", "down", "rows",
            "ro", "nill", "abss", "A", "Row", "t0", "row1", "nil0", "zzzz", "ceiling", "az", "za", "pz", "a0", "p9"}) {
            unreadable("from t0 let " + word, 12);
            unreadable("from t0 let a " + word, 14);
            unreadable("from t0 " + word + " a!", 8);
        }
        for (String word : new String[] {"t6", "t5", "t00", "a1", "first1", "b2", "sort0"}) {
            unreadable("from t0 " + word, 8);
            unreadable("from t0 first 1 " + word, 16);
        }
    }

    private static void wholes() {
        CHECKS.says("NUMBERS: 1 to 9 digits (a WHOLE);");
        ColumnHouse x = house();
        CHECKS.gives(x, "from t0 let 0", 3, 0, 0);
        CHECKS.gives(x, "from t0 let 9", 3, 9, 9);
        CHECKS.gives(x, "from t0 let 99999999", 3, 99999999, 99999999);
        CHECKS.gives(x, "from t0 let 999999999", 3, 999999999, 999999999);
        CHECKS.gives(x, "from t0 let 000000007", 3, 7, 7);
        CHECKS.fine(x, "from t0 first 999999999", 2);
        CHECKS.fine(x, "from t0 first 000000001", 1);
        CHECKS.says("Of digits all that stand there count (too many: no token).");
        unreadable("from t0 let 1000000000", 12);
        unreadable("from t0 let 0000000007", 12);
        unreadable("from t0 first 0000000001", 14);
        unreadable("from t0 let 1 + 99999999999999999999999999", 16);
        CHECKS.says("number: a WHOLE.");
        readable("from t0 first 1");
        readable("from t0 over t1 at 1");
        for (String number : new String[] {"1l", "1.0", "1.0f", "-1", "a", "row", "'1'", "(1)", "+1", ""}) {
            unreadable("from t0 first " + number, 14);
            unreadable("from t0 over t1 at " + number, 19);
        }
    }

    private static void longs() {
        CHECKS.says("1 to 18 digits and l (a LONG)");
        ColumnHouse x = house();
        CHECKS.gives(x, "from t0 let 0l", 4, 0, 0);
        CHECKS.gives(x, "from t0 let 1234567890l", 4, 1234567890L, 1234567890L);
        CHECKS.gives(x, "from t0 let 99999999999999999l", 4, 99999999999999999L, 99999999999999999L);
        CHECKS.gives(x, "from t0 let 999999999999999999l", 4, 999999999999999999L, 999999999999999999L);
        CHECKS.gives(x, "from t0 let 000000000000000007l", 4, 7, 7);
        unreadable("from t0 let 1000000000000000000l", 12);
        unreadable("from t0 let 0000000000000000007l", 12);
        unreadable("from t0 let 1 l", 14);
        unreadable("from t0 let 1L", 13);
    }

    private static void reals() {
        CHECKS.says("1 to 6 digits, a point, 1 to 3 digits (a REAL: the digits as a whole number, divided by 10, 100 "
                + "or 1000), and f behind it (made a SINGLE)");
        String[] good = {"0.0", "0.1", "0.01", "0.001", "9.9", "999999.9", "999999.99", "999999.999", "000001.100",
                "0.7", "123456.789", "0.3"};
        for (String number : good) {
            ColumnHouse x = house();
            long real = Checks.real(Double.parseDouble(number));
            long single = Checks.single((float) Double.parseDouble(number));
            CHECKS.gives(x, "from t0 let " + number, 6, real, real);
            CHECKS.gives(x, "from t0 let " + number + "f", 5, single, single);
        }
        ColumnHouse x = house();
        long twice = Checks.single((float) (999999.999));
        CHECKS.gives(x, "from t0 let 999999.999f", 5, twice, twice);
        for (String number : new String[] {"1000000.0", "0000000.1", "1234567.123", "0.0000", "0.1234", "999999.9999",
            "1234567.1234", "9999999999.5", "1234567890123456789.5"}) {
            unreadable("from t0 let " + number, 12);
            unreadable("from t0 let " + number + "f", 12);
        }
        unreadable("from t0 let .5", 12);
        unreadable("from t0 let 5.", 13);
        unreadable("from t0 let 5.f", 13);
        unreadable("from t0 let 5 .5", 14);
        unreadable("from t0 let 5. 5", 13);
        unreadable("from t0 let 5.5 f !", 16);
        unreadable("from t0 let 5f", 13);
        unreadable("from t0 let 1.5.5", 15);
        unreadable("from t0 let 1.5l", 15);
    }

    private static void texts() {
        CHECKS.says("TEXTS: ', 0 to 8 bytes but ', '");
        ColumnHouse x = house();
        String[] good = {"", "a", "ab", "1234567", "12345678", " ", "        ", "~!\"#$%&(", "from t0"};
        for (String text : good) {
            CHECKS.gives(x, "from t0 let '" + text + "'", 10, Checks.text(text), Checks.text(text));
            CHECKS.due("a text's", x.sort(6, 3, 0), 3);
        }
        unreadable("from t0 let '123456789'", 12);
        unreadable("from t0 let '         '", 12);
        unreadable("from t0 let '", 12);
        unreadable("from t0 let '12345678", 12);
        unreadable("from t0 let '1234567", 12);
        unreadable("from t0 let '''", 14);
        unreadable("from t0 let 'a'b'", 15);
        unreadable("from t0 'a'", 8);
    }

    private static void signs() {
        CHECKS.says("signs ( ) [ ] , : + - * / % = # < <= > >=");
        ColumnHouse x = house();
        String[] binary = {"+ 3 12 14", "- 3 -2 0", "* 3 35 49", "/ 3 0 1", "% 3 5 0", "= 7 0 1", "# 7 1 0", "< 7 1 0",
            "<= 7 1 1", "> 7 0 0", ">= 7 0 1"};
        for (String each : binary) {
            String[] part = each.split(" ");
            String query = "from t0 let a" + part[0] + "7";
            CHECKS.gives(x, query, Integer.parseInt(part[1]), Long.parseLong(part[2]), Long.parseLong(part[3]));
            unreadable(query.replace(part[0], part[0] + " " + part[0]) + "!",
                    part[0].equals("-") ? query.length() + 2 : 14 + part[0].length());
        }
        CHECKS.gives(x, "from t0 let c[(0)]", 3, 0, 0);
        CHECKS.gives(x, "from t0 group a,b:count", 3, 1, 1);
        for (String sign : new String[] {"==", "!=", "<>", "&", "|", "!", "^", "~", "?", ";", ".", "\"", "@", "$",
                "{", "}", "\\", "_", "`", "A"}) {
            readable("from t0 let a = a");
            ColumnHouse y = house();
            CHECKS.due("from t0 let a " + sign + " a", Checks.ask(y, "from t0 let a " + sign + " a"), -9);
            int place = sign.equals("==") || sign.equals("<>") ? 15 : 14;
            CHECKS.due("its place", y.fault(1), place);
        }
    }

    private static void blanks() {
        CHECKS.says("Blanks (32) may stand between.");
        ColumnHouse x = house();
        CHECKS.fine(x, " from t0", 2);
        CHECKS.fine(x, "from t0 ", 2);
        CHECKS.fine(x, "from     t0", 2);
        CHECKS.fine(x, "from t0" + " ".repeat(293), 2);
        CHECKS.fine(x, " ".repeat(293) + "from t0", 2);
        CHECKS.gives(x, "from t0 let ( a + 1 ) * - 2", 3, -12, -16);
        CHECKS.gives(x, "from t0 let(a+1)*-2", 3, -12, -16);
        CHECKS.gives(x, "from t0 let max ( a , 6 )", 3, 6, 7);
        CHECKS.gives(x, "from t0 let c [ 0 ]", 3, 0, 0);
        unreadable("fr om t0", 0);
        unreadable("from t0 let a < = 5", 16);
        unreadable("from t0 let 1 2", 14);
        unreadable("from t0\tlet a", 7);
        unreadable("from t0\nlet a", 7);
        CHECKS.fault(x, "   from t3   let   a", 2, 19, -1);
    }

    /**
     * Queries whose tokens stand apart, with a point behind each at which they may end. Cut off
     * behind another one they end where no end can be; and where any token stands, none that a
     * byte doesn't begin can stand.
     */
    private static void queriesCutOff() {
        CHECKS.says("step = \"where\" ex | \"let\" ex | \"keep\" column {\",\" column} | \"join\" table \"on\" column "
                + "\"=\" column | \"group\" [column {\",\" column}] \":\" fold {\",\" fold} | \"sort\" column "
                + "[\"down\"] | \"first\" number | \"into\" table | \"over\" table \"at\" number.");
        CHECKS.says("The first token that can't stand there (the text's end, too; a byte that begins none;");
        String[] all = {
            "from t0. where b.", "from t0. let a. + 1. - a. * 2. / 3. % 4.", "from t0. keep a. , b. , c.",
            "from t0. join t1 on a = a.", "from t0. group : count.",
            "from t0. group a , b : sum ( a ). , max ( a ).",
            "from t0. group : min ( a ). , last ( c ). , any ( b ). , count.", "from t0. sort a. down.",
            "from t0. first 1.", "from t0. into t1.", "from t0. over t1 at 0.",
            "from t0. let b. or b. and b.", "from t0. let not not b.", "from t0. let - - a.",
            "from t0. let a. = a. and a. # a.", "from t0. let a. < a.", "from t0. let a. <= a.",
            "from t0. let a. > a.", "from t0. let a. >= a.", "from t0. let c. [ 0 ].",
            "from t0. let nil. let row. let 'x'. let 1l. let 1.5. let 1.5f.", "from t0. let ( ( a ) ).",
            "from t0. let abs ( a ).", "from t0. let max ( a , a ).", "from t0. let if ( b , a , a ).",
            "from t0. let safe ( a , a ).", "from t0. where b. sort a. first 1. keep a."};
        for (String marked : all) {
            StringBuilder text = new StringBuilder();
            for (String token : marked.split(" ")) {
                boolean may = token.endsWith(".");
                text.append(may ? token.substring(0, token.length() - 1) : token);
                if (may) {
                    readable(text.toString());
                } else {
                    unreadable(text.toString(), text.length());
                    unreadable(text + "  ", text.length() + 2);
                }
                unreadable(text + "!", text.length());
                unreadable(text + " !", text.length() + 1);
                text.append(' ');
            }
        }
    }

    private static void tokensThatCanNotStandThere() {
        CHECKS.says("fold = \"count\" | (\"sum\" | \"max\" | \"min\" | \"last\" | \"any\") \"(\" ex \")\".");
        CHECKS.says("one = NUMBER | TEXT | \"nil\" | \"row\" | column | FUNCTION \"(\" ex {\",\" ex} \")\" | \"(\" ex "
                + "\")\".");
        CHECKS.says("The first token that can't stand there");
        String[] all = {"@where b", "from @from t0", "from t0 @b", "from t0 @from t0", "from t0 @on", "from t0 @at",
                "from t0 @down", "from t0 @1", "from t0 @(", "from t0 @count", "from t0 let a @a", "from t0 let a @1",
                "from t0 let a @(a)", "from t0 let a @not b", "from t0 let @+ a", "from t0 let @* a",
                "from t0 let @= a", "from t0 let @)", "from t0 let (@)", "from t0 let (a@]", "from t0 let c[0@)",
                "from t0 let c[@]", "from t0 let a@)", "from t0 let a@]", "from t0 let a@,", "from t0 let a = a @= a",
                "from t0 let a < a @< a", "from t0 let a = @not b", "from t0 let - @not b", "from t0 let a + @not b",
                "from t0 keep @, a", "from t0 keep a, @, a", "from t0 keep a @b", "from t0 keep @1",
                "from t0 keep @:", "from t0 join @on a = a", "from t0 join t1 @a = a", "from t0 join t1 on @1 = a",
                "from t0 join t1 on a @# a", "from t0 join t1 on a @<= a", "from t0 join t1 on a = @1",
                "from t0 group a @count", "from t0 group a, @: count", "from t0 group : @: count",
                "from t0 group a @b", "from t0 group : @a", "from t0 group : @row", "from t0 group : @abs(a)",
                "from t0 group : count@(a)", "from t0 group : sum @a", "from t0 group : sum(@)",
                "from t0 group : sum(a@, a)", "from t0 group : sum(a), @sort a", "from t0 sort @down",
                "from t0 sort a @up", "from t0 sort a down @down", "from t0 sort a@, b", "from t0 sort @-a",
                "from t0 first @a", "from t0 into t1 @at 0", "from t0 over t1 @0", "from t0 over t1 @on 0",
                "from t0 let @sum(a)", "from t0 let @count", "from t0 let abs @a", "from t0 let abs@[a",
                "from t0 let row@(a)", "from t0 let nil@(a)", "from t0 where @where b", "from t0 let a and @or b",
                "from t0 let not @and b", "from t0 let @t", "from t0 let @t0"};
        for (String marked : all) {
            unreadable(marked.replace("@", ""), marked.indexOf('@'));
        }
    }

    private static void stepsOfTheGrammar() {
        CHECKS.says("query = \"from\" table {step}.");
        readable("from t0");
        readable("from t0" + " first 1".repeat(36));
        unreadable("", 0);
        unreadable("t0", 0);
        CHECKS.says("not = {\"not\"} compared.  compared = sum [(\"=\" | \"#\" | \"<\" | \"<=\" | \">\" | \">=\") "
                + "sum].");
        ColumnHouse x = house();
        CHECKS.gives(x, "from t0 let not a = 5", 7, 0, 1);
        CHECKS.gives(x, "from t0 let (a = 5) = b", 7, 1, 1);
        CHECKS.says("ex = both {\"or\" both}.  both = not {\"and\" not}.");
        CHECKS.gives(x, "from t0 let b or b and not b", 7, 1, 0);
        CHECKS.gives(x, "from t0 let (b or not b) and not b", 7, 0, 1);
        CHECKS.says("sum = term {(\"+\" | \"-\") term}.  term = minus {(\"*\" | \"/\" | \"%\") minus}.");
        CHECKS.gives(x, "from t0 let a - 3 - 1 + 2 * 3 % 4", 3, 3, 5);
        CHECKS.gives(x, "from t0 let a * 7 / 2 % 5", 3, 2, 4);
        CHECKS.says("minus = {\"-\"} had.  had = one {\"[\" ex \"]\"}.");
        CHECKS.gives(x, "from t0 let -with(list(1), 0, 4)[0]", 3, -4, -4);
        CHECKS.gives(x, "from t0 let 2 - -a", 3, 7, 9);
        readable("from t0 let c[0][0]");
        CHECKS.fault(x, "from t0 let c[0][0]", 4, 16, -1);
    }

    private static void functions() {
        CHECKS.says("FUNCTIONS of one: tiny sign small whole long single real abs floor ceil rint round signum sqrt "
                + "ulp next expo bits from missing len list box prior run; of two: max min copy scalb cat safe; of "
                + "three: mad if with.");
        CHECKS.says("a number of them that is wrong, at the token by which it is;");
        String[] names = {ONES, TWOS, THREES};
        for (int most = 1; most <= 3; most++) {
            for (String name : names[most - 1].split(" ")) {
                for (int given = 0; given <= 4; given++) {
                    String parts = given == 0 ? "" : "a" + ",a".repeat(given - 1);
                    String query = "from t0 let " + name + "(" + parts + ")";
                    int open = 13 + name.length();
                    if (given == most) {
                        readable(query);
                        unreadable("from t0 let " + name, 12 + name.length());
                        unreadable("from t0 let " + name + " a", open);
                        unreadable("from t0 let " + name + "(" + parts, open + parts.length());
                        unreadable("from t0 let " + name + "(" + parts + "]", open + parts.length());
                    } else {
                        unreadable(query, given < most ? open + parts.length() : open + 2 * most - 1);
                    }
                }
            }
        }
    }

    private static void nesting() {
        CHECKS.says("At most 20 ( and [ lie in one another,");
        CHECKS.says("a 21st, a 13th) is FAULT 9;");
        for (int n : new int[] {19, 20, 21, 22}) {
            String in = ")".repeat(n);
            nested("from t0 let ", "(", n, "a" + in);
            nested("from t0 let ", "c[", n, "0" + "]".repeat(n));
            nested("from t0 let ", "abs(", n, "a" + in);
            nested("from t0 group : ", "sum(", 1, "(".repeat(n - 1) + "a" + in);
            nested("from t0 let ", "(c[", n / 2, n % 2 == 0 ? "0" + "])".repeat(n / 2) : "(0)" + "])".repeat(n / 2));
        }
        readable("from t0 let " + "(a)+".repeat(30) + "(a)");
        String deepest = " let " + "(".repeat(20) + "a" + ")".repeat(20);
        readable("from t0" + deepest + deepest);
        readable("from t0 let " + "(".repeat(20) + "a" + ")".repeat(20) + "+c[0]");
        unreadable("from t0 let " + "(".repeat(20) + "c[0]" + ")".repeat(20), 33);
        unreadable("from t0 let " + "(".repeat(20) + "abs(a)" + ")".repeat(20), 35);
        unreadable("from t0 group : sum(" + "(".repeat(20) + "a" + ")".repeat(21), 39);
        readable("from t0 group : sum(" + "(".repeat(19) + "a" + ")".repeat(20));
        ColumnHouse x = house();
        String twenty = "from t0 let " + "(".repeat(20) + "a" + ")".repeat(20);
        String more = "from t0 let " + "(".repeat(21) + "a" + ")".repeat(21);
        for (String unread : new String[] {more, "from t0 let ((((", "from t0 let ((((a)]", "from t0 let (((a)))))"}) {
            CHECKS.holds(unread, Checks.ask(x, unread) == -9);
            CHECKS.gives(x, twenty, 3, 5, 7);
            CHECKS.fault(x, more, 9, 32, -1);
        }
    }

    /** A query of brackets in one another: the place of the 21st is told if there is one. */
    private static void nested(String ahead, String opening, int n, String behind) {
        String query = ahead + opening.repeat(n) + behind;
        int depth = 0;
        for (int at = 0; at < query.length(); at++) {
            char c = query.charAt(at);
            depth += c == '(' || c == '[' ? 1 : c == ')' || c == ']' ? -1 : 0;
            if (depth == 21) {
                unreadable(query, at);
                return;
            }
        }
        readable(query);
    }

    private static void notsAndMinuses() {
        CHECKS.says("at most 12 not, and at most 12 -, stand behind one another.");
        for (int n : new int[] {0, 1, 11, 12}) {
            ColumnHouse x = house();
            boolean odd = n % 2 == 1;
            CHECKS.gives(x, "from t0 let " + "not ".repeat(n) + "b", 7, odd ? 0 : 1, odd ? 1 : 0);
            CHECKS.gives(x, "from t0 let " + "-".repeat(n) + "a", 3, odd ? -5 : 5, odd ? -7 : 7);
        }
        for (int n : new int[] {13, 14, 30}) {
            unreadable("from t0 let " + "not ".repeat(n) + "b", 12 + 48);
            unreadable("from t0 let " + "-".repeat(n) + "a", 12 + 12);
            unreadable("from t0 let 1 * " + "- ".repeat(n) + "a", 16 + 24);
        }
        readable("from t0 let " + "not ".repeat(12) + "b and " + "not ".repeat(12) + "b");
        readable("from t0 let " + "not ".repeat(12) + "(" + "not ".repeat(12) + "b)");
        readable("from t0 let " + "-".repeat(12) + "(" + "-".repeat(12) + "a)");
        readable("from t0 let " + "-".repeat(12) + "a * " + "-".repeat(12) + "a");
        readable("from t0 where " + "not ".repeat(12) + "b where " + "not ".repeat(12) + "b");
    }

    private static void notDone() {
        CHECKS.says("is FAULT 9; the query isn't done then.");
        ColumnHouse x = house();
        CHECKS.fine(x, "from t0 first 1", 1);
        int left = x.credit();
        CHECKS.fault(x, "from t0 into t1 let a / 0 let 1.", 9, 31, -1);
        CHECKS.due("no CREDIT is taken", x.credit(), left);
        CHECKS.due("no table becomes another", x.size(1, 1), 0);
        CHECKS.due("none is held", x.held(0), -1);
        CHECKS.due("the RESULT stays", x.size(6, 0), 1);
        CHECKS.due("no FAULT is taken up", x.fault(3), 0);
    }

    private static void faultsOfTheLatest() {
        CHECKS.says("0, NONE, NONE, 0 ahead of any.");
        ColumnHouse x = house();
        int[] ahead = {0, -1, -1, 0};
        for (int what = 0; what <= 3; what++) {
            CHECKS.due("fault(" + what + ")", x.fault(what), ahead[what]);
        }
        x.ask(1);
        for (int what = 0; what <= 3; what++) {
            CHECKS.due("behind -10 fault(" + what + ")", x.fault(what), ahead[what]);
        }
        CHECKS.says("Of the latest ask() that was not -10: 0 the FAULT (0: none), 1 its place in the text, 2 its row "
                + "(NONE for both without one). 3 how many FAULTS safe() took up in it. NONE for another what;");
        String faulty = "from t0 let safe(a/0, safe(c[1], 1)) let a / (row - 1)";
        CHECKS.fault(x, faulty, 6, faulty.lastIndexOf("/"), 1);
        CHECKS.due("taken up", x.fault(3), 2);
        x.ask(-1);
        CHECKS.due("-10 leaves the FAULT", x.fault(0), 6);
        CHECKS.due("-10 leaves its place", x.fault(1), faulty.lastIndexOf("/"));
        CHECKS.due("-10 leaves its row", x.fault(2), 1);
        CHECKS.due("-10 leaves how many", x.fault(3), 2);
        CHECKS.due("-10 leaves what was held", x.held(1), 1);
        for (int what : new int[] {-1, 4, LEAST, MOST}) {
            CHECKS.due("fault(" + what + ")", x.fault(what), -1);
        }
        CHECKS.fine(x, "from t0", 2);
        CHECKS.due("none taken up now", x.fault(3), 0);
        CHECKS.fault(x, "", 9, 0, -1);
        CHECKS.due("none taken up now", x.fault(3), 0);
        CHECKS.fault(x, "from t0 keep d", 2, 13, -1);
    }

    private static void holding() {
        CHECKS.says("What was held and let go in the latest ask() that was not -10, in order (nothing behind FAULT "
                + "9): 2 * table, and 1 more when it was let go; NONE when there is no i-th.");
        ColumnHouse x = house();
        for (int i : new int[] {-1, 0, 1, LEAST, MOST}) {
            CHECKS.due("ahead of any held(" + i + ")", x.held(i), -1);
        }
        x.table(5, 1);
        held(x, "from t5", 10, 11);
        held(x, "from t0 into t5 into t1 over t5 at 0", 0, 10, 2, 10, 11, 3, 11, 1);
        held(x, "from t0 join t0 on a = a", 0, 0, 1, 1);
        held(x, "from t0 let a / 0 into t1", 0, 1);
        held(x, "from t0 into t1 let a / 0 into t2", 0, 2, 3, 1);
        held(x, "from t0 into t1 !");
        CHECKS.fine(x, "from t0", 2);
        for (int i : new int[] {-1, 2, LEAST, MOST}) {
            CHECKS.due("held(" + i + ")", x.held(i), -1);
        }
        CHECKS.due("as many as 300 bytes can hold", Checks.ask(x, "from t0" + "into t1".repeat(41)), 2);
        for (int i = 0; i <= 84; i++) {
            int due = i == 0 ? 0 : i <= 41 ? 2 : i <= 82 ? 3 : i == 83 ? 1 : -1;
            CHECKS.due("held(" + i + ")", x.held(i), due);
        }
    }

    private static void held(ColumnHouse x, String query, int... want) {
        Checks.ask(x, query);
        for (int i = 0; i < want.length; i++) {
            CHECKS.due(query + " held(" + i + ")", x.held(i), want[i]);
        }
        CHECKS.due(query + " held behind all", x.held(want.length), -1);
    }
}
