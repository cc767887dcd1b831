import java.util.function.Supplier;

/** Part 3 of the terms, LED of part 4, and promises 17 to 23: each sentence at its edges. */
public final class RulesEdgesTest {
    private static final Edges edge = new Edges();
    private static final long HERE = Edges.HERE;
    private static final Supplier<PushedIn> TWENTY = RulesEdgesTest::twentyRules;

    public static void main(String[] args) {
        kinds();
        numbersOfRules();
        whoCanBeNext();
        likeOnes();
        scoreByNumber();
        scoreBySortAndQuick();
        scoreByLastAndMixed();
        scoreByText();
        linesOfTexts();
        grammar();
        numbersInTexts();
        names();
        openOnes();
        intsThatWrap();
        truths();
        theLineThatCounts();
        faultsOfTexts();
        textsThatEndTooEarly();
        breaksOfADay();
        keptDays();
        findTheLeast();
        ledBy();
        rule();
        text();
        next();
        breaks();
        kept();
        find();
        led();
        edge.end();
    }

    private static int tape(String text) {
        return Due.text(new PushedIn(), text);
    }

    private static PushedIn twentyRules() {
        PushedIn x = Due.yard("5-40@0m0s0");
        for (int r = 0; r < 20; r++) {
            x.rule(r % 8, 500 + r, 99 - r);
        }
        return x;
    }

    /** Who is next at door 0 of day 0 by a new rule. */
    private static int nextBy(PushedIn x, int kind, int ab, int t) {
        return x.next(x.rule(kind, ab, 0), 0, t);
    }

    // ---- terms

    private static void kinds() {
        edge.says(0, "======== 3 RULES 0 .. 19, as they come, are BODIES of KINDS: 0 RULE; 1 FIRST under RULE; 2 NUMBER "
                + "under RULE; 3 SORT under FIRST; 4 QUICK under FIRST; 5 LAST under RULE; 6 MIXED under SORT; 7 TOLD "
                + "under RULE.");
        PushedIn x = new PushedIn();
        for (int r = 0; r < 20; r++) {
            edge.is("rule " + r, x.rule(r % 8, 0, 0), r);
        }
        edge.is("rule 20", x.rule(0, 0, 0), -3);
        int[] above = {-1, 0, 0, 1, 1, 0, 3, 0};
        for (int kind = 0; kind < 8; kind++) {
            x.keep(0, kind);
            int is = 1 << kind;
            for (int k = above[kind]; k >= 0; k = above[k]) {
                is |= 1 << k;
            }
            for (int k = 0; k < 8; k++) {
                edge.is("kind " + kind + " under " + k, x.taken(0, k), (is >> k & 1) != 0 ? kind : -12);
            }
        }
        edge.bounds(Yards.BUSY, 0, 7, "rule", HERE, 0, 0);
        edge.is("the last rule leads", TWENTY.get().led(0) >> 19, 1);
    }

    private static void numbersOfRules() {
        edge.says(0, "Each has a number a (0 .. 99) and b (0 .. 99), a PRICE (0 .. 99).");
        edge.bounds(Yards.BUSY, 0, 9999, "rule", 7, HERE, 0);
        edge.bounds(Yards.BUSY, 0, 99, "rule", 7, 0, HERE);
        PushedIn x = Due.yard("5-40@0m0s0", "10-40@1m0s1");
        int[][] wanted = {{0, 0, 0}, {9999, 99, 99}, {99, 0, 99}, {9900, 99, 0}};
        for (int[] w : wanted) {
            int r = x.rule(7, w[0], 0);
            Due.text(x, "s&a=" + w[1] + "&b=" + w[2]);
            edge.is("a, b by the text of " + w[0], x.next(r, 0, 20), 1);
        }
        PushedIn y = new PushedIn();
        y.rule(0, 0, 99);
        edge.is("a price of 99", y.find(1), 99);
        y.rule(0, 0, 0);
        edge.is("a price of 0", y.find(1), 0);
    }

    private static void whoCanBeNext() {
        edge.says(0, "NEXT at a MINUTE t of a DAY at a DOOR: of COMERS (of that DAY; of that LINE, if lines are one a "
                + "door) with IN at t or less, whose told START (EARLY else) is t or more:");
        PushedIn x = Due.yard("10-40@0m0s1", "20-50@1m0s1");
        x.rule(1, 0, 0);
        int[] ts = {0, 9, 10, 19, 20, 30, 31, 40, 41, 719};
        int[] nexts = {-2, -2, 0, 0, 0, 0, 1, 1, -2, -2};
        for (int i = 0; i < ts.length; i++) {
            edge.is("next at " + ts[i], x.next(0, 0, ts[i]), nexts[i]);
        }
        edge.is("of another day", x.next(0, 10, 20), -2);
        PushedIn first = Due.yard("0-1@0m0s0");
        first.rule(1, 0, 0);
        edge.is("in and started at minute 0", first.next(0, 0, 0), 0);
        edge.is("started ahead of minute 1", first.next(0, 0, 1), -2);
        x.start(0, 18);
        edge.is("at its told start", x.next(0, 0, 18), 0);
        edge.is("behind its told start, ahead of the other's in", x.next(0, 0, 19), -2);
        edge.is("at the other's in", x.next(0, 0, 20), 1);
        x.start(0, 719);
        edge.is("told behind all", x.next(0, 0, 719), 0);
        x.start(0, 0);
        edge.is("told ahead of its in", x.next(0, 0, 10), -2);
        x.start(0, -1);
        x.yard(1, 30);
        edge.is("in, whatever the slack", x.next(0, 0, 9), -2);
        PushedIn y = Due.yard("10-40@0m0s1l2", "20-50@1m0s1");
        y.rule(1, 0, 0);
        edge.is("of all lines at door 1", y.next(0, 1, 20), 0);
        y.yard(2, 1);
        edge.is("of line 1", y.next(0, 1, 20), 1);
        edge.is("of line 2", y.next(0, 2, 20), 0);
        edge.is("of line 0, in which nobody stands", y.next(0, 0, 20), -2);
        PushedIn z = Due.yard("10-40@0m0s1", "5-40@0m0s1");
        z.rule(1, 0, 0);
        edge.is("one with neither start", z.next(0, 0, 15), 0);
        z.start(1, 15);
        edge.is("told of one that has none", z.next(0, 0, 15), 1);
    }

    private static void likeOnes() {
        edge.says(0, "the one with the greatest SCORE; of like ones the least IN, then the least number.");
        PushedIn x = Due.yard("12-60@0m0s1", "11-60@1m0s1", "11-60@2m0s1", "13-60@3m0s2");
        edge.is("like ones", nextBy(x, 0, 0, 30), 1);
        edge.is("like ones by first", nextBy(x, 1, 0, 30), 1);
        edge.is("the greatest score, though in last", nextBy(x, 3, 200, 30), 3);
        edge.is("like ones of a score of 1", nextBy(x, 3, 100, 30), 1);
        x.came(1, 12);
        edge.is("the least in", nextBy(x, 0, 0, 30), 2);
        x.came(2, 12);
        edge.is("three of the same in", nextBy(x, 0, 0, 30), 0);
        Due.text(x, "-s");
        edge.is("the greatest of scores below 0", nextBy(x, 7, 0, 30), 0);
        Due.text(x, "s=2?4096*4096*128-1;-(4096*4096*128)");
        edge.is("the greatest int against the least", nextBy(x, 7, 0, 30), 3);
        Due.text(x, "-(4096*4096*128)");
        edge.is("the least int of all", nextBy(x, 7, 0, 30), 0);
    }

    private static void scoreByNumber() {
        edge.says(0, "SCORE: RULE 0; FIRST 0; NUMBER: 99 less NUMBER (0 without);");
        PushedIn x = Due.yard("10-60@0m0s1", "11-60@1m0s1#99", "12-60@2m0s1#98", "13-60@3m0s1#1", "14-60@0m1s1#0");
        x.start(4, 26);
        x.start(3, 27);
        x.start(2, 28);
        x.start(1, 30);
        x.start(0, 29);
        int r = x.rule(2, 0, 0);
        edge.is("number 0 scores 99", x.next(r, 0, 26), 4);
        edge.is("number 1 scores 98", x.next(r, 0, 27), 3);
        edge.is("number 98 scores 1", x.next(r, 0, 28), 2);
        edge.is("number 99 scores 0, like one without", x.next(r, 0, 29), 0);
        edge.is("number 99 alone", x.next(r, 0, 30), 1);
        edge.is("rule 0: the least in", nextBy(x, 0, 0, 20), 0);
        edge.is("first 0: the least in", nextBy(x, 1, 0, 20), 0);
        x.came(1, 9);
        edge.is("number 99 ahead of one without by its in", x.next(r, 0, 29), 1);
    }

    private static void scoreBySortAndQuick() {
        edge.says(0, "SORT: 1 if its SORT is a, else 0; QUICK: 99 less LEAST of its MATTER;");
        PushedIn x = Due.yard("10-300@0m0s0", "11-300@1m1s7", "12-300@2m2s3");
        x.matter(0, 1, 99);
        x.matter(1, 1, 99);
        edge.is("sort 0", nextBy(x, 3, 0, 30), 0);
        edge.is("sort 7", nextBy(x, 3, 700, 30), 1);
        edge.is("sort 8, which nobody is of", nextBy(x, 3, 800, 30), 0);
        edge.is("sort 99", nextBy(x, 3, 9900, 30), 0);
        edge.is("b does not count", nextBy(x, 3, 307, 30), 2);
        int quick = x.rule(4, 0, 0);
        edge.is("of like leasts the first", x.next(quick, 0, 30), 0);
        x.matter(0, 0, 2);
        edge.is("98 is above 97", x.next(quick, 0, 30), 1);
        x.matter(0, 0, 99);
        x.matter(1, 0, 98);
        x.matter(2, 0, 10);
        edge.is("89 is above 1 and 0", x.next(quick, 0, 30), 2);
        x.start(2, 20);
        edge.is("1 is above 0", x.next(quick, 0, 30), 1);
    }

    private static void scoreByLastAndMixed() {
        edge.says(0, "LAST: IN; MIXED: 2 if t less IN is b or more, else as of SORT;");
        PushedIn x = Due.yard("10-300@0m0s1", "15-300@1m1s2", "15-300@2m2s1");
        edge.is("the last in, of like ones the least number", nextBy(x, 5, 0, 30), 1);
        edge.is("the last in at 14", nextBy(x, 5, 0, 14), 0);
        int[] bs = {0, 15, 16, 20, 21, 99};
        int[] nexts = {0, 0, 0, 0, 1, 1};
        for (int i = 0; i < bs.length; i++) {
            edge.is("mixed, of sort 2, b " + bs[i], nextBy(x, 6, 200 + bs[i], 30), nexts[i]);
        }
        edge.is("2 is above 1", nextBy(x, 6, 220, 30), 0);
        edge.is("no wait of b, no sort of a", nextBy(x, 6, 721, 30), 0);
        edge.is("no wait of b, of sort 1", nextBy(x, 6, 121, 30), 0);
        x.came(0, 16);
        edge.is("a wait of 15 of both others", nextBy(x, 6, 115, 30), 1);
        edge.is("of sort 1 the least in", nextBy(x, 6, 116, 30), 2);
    }

    private static void scoreByText() {
        edge.says(0, "TOLD: by THE TEXT (told last; 0 without).");
        PushedIn x = Worth.yard();
        edge.is("without", x.next(0, 0, 30), 0);
        Due.text(x, "s");
        edge.is("by sort", x.next(0, 0, 30), 1);
        Due.text(x, "-s");
        edge.is("told last", x.next(0, 0, 30), 0);
        Due.text(x, "s+");
        edge.is("a fault is not told", x.next(0, 0, 30), 0);
        Due.text(x, "s");
        x.rule(7, 0, 0);
        edge.is("by a rule that came behind it", x.next(1, 0, 30), 1);
    }

    private static void linesOfTexts() {
        edge.says(0, "THE TEXT by THE TAPE: LINES, one or more, parted by ; . LINE: E, or E ? E (what counts if the "
                + "first is not 0).");
        edge.is("no line", tape(""), -100);
        edge.is("one line", tape("1"), 1);
        edge.is("two lines", tape("1;2"), 1);
        edge.is("thirty lines", tape("1;".repeat(29) + "1"), 1);
        edge.is("a line that is missing at the end", tape("1;".repeat(30)), -160);
        edge.is("a line that is missing ahead", tape(";1"), -100);
        edge.is("a line that is missing between", tape("1;;1"), -102);
        edge.is("E ? E", tape("1?2"), 1);
        edge.is("E ? E ? E", tape("1?2?3"), -103);
        edge.is("no first E", tape("?2"), -100);
        edge.is("no second E", tape("1?;2"), -102);
        edge.is("the first is not 0", Worth.of("1?7;8"), 7);
        edge.is("the first is below 0", Worth.of("-1?7;8"), 7);
        edge.is("the first is 0", Worth.of("0?7;8"), 8);
        edge.is("a line ends a text, not an E", tape("(1;2)"), -102);
        edge.is("a ? ends an E", tape("(1?2)"), -102);
    }

    private static void grammar() {
        edge.says(0, "E = A { | A }. A = B { & B }. B = S, or S < S, S = S, S > S. S = P { + P, - P }. P = O { * O, / O, "
                + "% O }.");
        edge.is("| behind &", Worth.of("1|0&0"), 1);
        edge.is("& ahead of |", Worth.of("0&0|1"), 1);
        edge.is("& behind <", Worth.of("0&2<1"), 0);
        edge.is("< behind +", Worth.of("2<1+2"), 1);
        edge.is("+ behind *", Worth.of("2+3*4"), 14);
        edge.is("* ahead of +", Worth.of("2*3+4"), 10);
        edge.is("- from the left", Worth.of("9-4-3"), 2);
        edge.is("- and + from the left", Worth.of("9-4+3"), 8);
        edge.is("/ from the left", Worth.of("80/4/2"), 10);
        edge.is("/ and * from the left", Worth.of("80/4*2"), 40);
        edge.is("% and * from the left", Worth.of("7%4*2"), 6);
        edge.is("( E )", Worth.of("(2+3)*4"), 20);
        for (String sign : new String[] {"<", "=", ">"}) {
            edge.is("two of " + sign, tape("1" + sign + "2" + sign + "3"), -103);
            edge.is("two of " + sign + ", one in ( )", tape("(1" + sign + "2)" + sign + "3"), 1);
        }
        for (String sign : new String[] {"|", "&", "<", "=", ">", "+", "*", "/", "%"}) {
            edge.is(sign + " ahead of all", tape(sign + "1"), -100);
            edge.is(sign + " twice", tape("1" + sign + sign + "1"), -102);
            edge.is(sign + " behind all", tape("1" + sign), -102);
            edge.is(sign + " in between", tape("1" + sign + "1"), 1);
        }
        for (String sign : new String[] {"|", "&", "+", "-", "*", "/", "%"}) {
            edge.is("thirty of " + sign, tape("w" + (sign + "w").repeat(29)), 1);
        }
    }

    private static void numbersInTexts() {
        edge.says(0, "O = a number (1 to 4 digits), a NAME, ! O, - O, ( E ). No blanks.");
        edge.is("one digit", Worth.of("0"), 0);
        edge.is("four digits", Worth.of("9999"), 9999);
        edge.is("noughts", Worth.of("0009"), 9);
        edge.is("five digits", tape("99990"), -104);
        edge.is("five digits behind a sign", tape("1+00000"), -106);
        edge.is("a name behind a digit", tape("1w"), -101);
        edge.is("a digit behind a name", tape("w1"), -101);
        edge.is("a name behind a name", tape("ww"), -101);
        edge.is("! O", Worth.of("!3"), 0);
        edge.is("- O", Worth.of("-3"), -3);
        edge.is("- of a number, then *", Worth.of("-2*-3"), 6);
        edge.is("! of a number, then +", Worth.of("!0+5"), 6);
        edge.is("! of ( E )", Worth.of("!(0|0)"), 1);
        edge.is("nothing in ( )", tape("()"), -101);
        edge.is("( ) behind a number", tape("1(2)"), -101);
        edge.is("! behind a number", tape("1!2"), -101);
        String whole = "1?-w<(2+s)*!m;a";
        for (int at = 0; at <= whole.length(); at++) {
            edge.is("a blank at " + at, tape(whole.substring(0, at) + " " + whole.substring(at)), -100 - at);
        }
    }

    private static void names() {
        edge.says(0, "NAMES: w how long it has waited (t less IN), s SORT, m MATTER, l LEAST, n NUMBER (0 without), d "
                + "whether its LINE is that DOOR, a, b of the RULE.");
        String[] texts = {"w", "s", "m", "l", "n", "d", "a", "b"};
        int[] worths = {20, 3, 2, 4, 17, 1, 6, 5};
        for (int i = 0; i < texts.length; i++) {
            edge.is(texts[i], Worth.of(texts[i]), worths[i]);
            edge.is(texts[i] + " in capitals", tape(texts[i].toUpperCase()), -100);
        }
        for (char c = 'a'; c <= 'z'; c++) {
            edge.is("name " + c, tape("" + c), "wsmlndab".indexOf(c) >= 0 ? 1 : -100);
        }
        PushedIn x = Due.yard("20-40@0m0s1", "21-40@1m0s2", "22-40@2m0s3#0", "23-40@3m0s4#1");
        x.rule(7, 0, 0);
        Due.text(x, "n");
        edge.is("number 1 is above 0 and none", x.next(0, 0, 25), 3);
        Due.text(x, "!n&s=3|!n&s=2");
        edge.is("no number is 0, as number 0 is", x.next(0, 0, 25), 1);
        Due.text(x, "w=0");
        edge.is("it came at t: waited 0", x.next(0, 0, 23), 3);
        Due.text(x, "d");
        for (int door = 0; door < 4; door++) {
            edge.is("its line is door " + door, x.next(0, door, 25), door);
        }
        PushedIn y = Due.yard("20-40@0m0s1", "21-40@1m0s2l0", "22-60@0m1s3l1");
        y.rule(7, 0, 0);
        Due.text(y, "d&s>1");
        edge.is("by its line, not its door, at 0", y.next(0, 0, 25), 1);
        edge.is("by its line, not its door, at 1", y.next(0, 1, 25), 2);
        y.matter(1, 0, 2);
        Due.text(y, "l");
        edge.is("the least as it is now", y.next(0, 0, 25), 2);
    }

    private static void openOnes() {
        edge.says(0, "At most 6 of ( ! - ahead of an O are open at once.");
        for (String sign : new String[] {"(", "!", "-"}) {
            String behind = sign.equals("(") ? ")" : "";
            edge.is("six of " + sign, tape(sign.repeat(6) + "w" + behind.repeat(6)), 1);
            edge.is("seven of " + sign, tape(sign.repeat(7) + "w" + behind.repeat(7)), -106);
            edge.is("seven of " + sign + " in a second E", tape("1?" + sign.repeat(7) + "w"), -108);
            edge.is("seven of " + sign + " in a second line", tape("1;" + sign.repeat(7) + "w"), -108);
            edge.is("seven of " + sign + " behind a +", tape("w+" + sign.repeat(7) + "w"), -108);
            String six = sign.repeat(6) + "w" + behind.repeat(6);
            edge.is("six of " + sign + " twice", tape(six + "+" + six), 1);
            edge.is("six of " + sign + " in both E's", tape(six + "?" + six), 1);
            edge.is("six of " + sign + " in two lines", tape(six + ";" + six), 1);
            edge.is("six of " + sign + " ahead of nothing", tape(sign.repeat(6)), -106);
        }
        edge.is("six of all three", tape("(!-(!-w))"), 1);
        edge.is("a seventh (", tape("(!-(!-(w)))"), -106);
        edge.is("a seventh !", tape("(!-(!-!w))"), -106);
        edge.is("a seventh -", tape("(!-(!--w))"), -106);
        edge.is("- between two is not open", tape("(((((1-(2)-2-2-2)))))"), 1);
        edge.is("- between two, then six", tape("w-------w"), 1);
        edge.is("- between two, then seven", tape("w--------w"), -108);
        edge.is("a closed ( is not open", tape("(((((w)+(w)+!w+-w))))"), 1);
        edge.is("an ended ! is not open", tape("((((((w)))+!!w+(!w))))"), 1);
        edge.is("what six are worth", Worth.of("(((((-3)))))"), -3);
        edge.is("what six ! are worth", Worth.of("!!!!!!3"), 1);
        edge.is("what six - are worth", Worth.of("------3"), 3);
    }

    private static void intsThatWrap() {
        edge.says(0, "Ints that wrap; / and % toward 0, by 0 they give 0;");
        edge.is("the greatest int", Worth.of("4096*4096*128-1"), Integer.MAX_VALUE);
        edge.is("and 1", Worth.of("4096*4096*128"), Integer.MIN_VALUE);
        edge.is("the least int less 1", Worth.of("-(4096*4096*128)-1"), Integer.MAX_VALUE);
        edge.is("- of the least int", Worth.of("-(4096*4096*128)"), Integer.MIN_VALUE);
        edge.is("the least int / -1", Worth.of("4096*4096*128/-1"), Integer.MIN_VALUE);
        edge.is("the least int % -1", Worth.of("4096*4096*128%-1"), 0);
        edge.is("a product that wraps", Worth.of("9999*9999*9999"), 9999 * 9999 * 9999);
        edge.is("a product that wraps to 0", Worth.of("4096*4096*256"), 0);
        String[] texts = {"7/2", "-7/2", "7/-2", "-7/-2", "7%2", "-7%2", "7%-2", "-7%-2", "1/2", "-1/2"};
        int[] worths = {3, -3, -3, 3, 1, -1, 1, -1, 0, 0};
        for (int i = 0; i < texts.length; i++) {
            edge.is(texts[i], Worth.of(texts[i]), worths[i]);
        }
        for (String text : new String[] {"7/0", "7%0", "0/0", "0%0", "-7/0", "-7%0", "4096*4096*128/0", "7/(w-20)"}) {
            edge.is(text, Worth.of(text), 0);
        }
        edge.is("0 by 0 is gone on with", Worth.of("7/0+7%0+2"), 2);
    }

    private static void truths() {
        edge.says(0, "| & < = > ! give 1, 0; all is worked out.");
        String[] texts = {"2|0", "0|2", "2|4", "0|0", "2&4", "2&0", "0&2", "0&0", "-1&1", "-1|0", "2<3", "3<3", "4<3",
            "2=3", "3=3", "4=3", "2>3", "3>3", "4>3", "-1<0", "!0", "!1", "!2", "!-1", "!!2", "1|7/0", "0&7%0"};
        int[] worths = {1, 1, 1, 0, 1, 0, 0, 0, 1, 1, 1, 0, 0, 0, 1, 0, 0, 0, 1, 1, 1, 0, 0, 0, 1, 1, 0};
        for (int i = 0; i < texts.length; i++) {
            edge.is(texts[i], Worth.of(texts[i]), worths[i]);
        }
        edge.is("the least int is less", Worth.of("4096*4096*128<0"), 1);
        edge.is("the least int and the greatest", Worth.of("4096*4096*128>9999"), 0);
    }

    private static void theLineThatCounts() {
        edge.says(0, "The first LINE without a first E, or whose first E is not 0, counts; none: 0.");
        String[] texts = {"8", "8;9", "0;9", "0?8", "0?8;0?9", "0?8;9;7", "0?8;1?9;7", "2?8;1?9;7", "1?0;9", "9;1?8"};
        int[] worths = {8, 8, 0, 0, 0, 9, 9, 8, 0, 9};
        for (int i = 0; i < texts.length; i++) {
            edge.is(texts[i], Worth.of(texts[i]), worths[i]);
        }
        PushedIn x = Worth.yard();
        edge.is("fifteen lines", Due.text(x, "0?1;".repeat(14) + "s=4"), 1);
        edge.is("the last of fifteen", x.next(0, 0, 30), 1);
        edge.is("fifteen lines, none of which counts", Due.text(x, "0?s;".repeat(14) + "0?s"), 1);
        edge.is("none: 0", x.next(0, 0, 30), 0);
    }

    private static void faultsOfTexts() {
        edge.says(0, "FAULT likewise; the length,");
        String whole = "1?-w<(2+s)*!m;a";
        edge.is(whole, tape(whole), 1);
        for (int sign : new int[] {'x', ' ', 0, 127, 128, 255, ')' + 128}) {
            for (int at = 0; at < whole.length(); at++) {
                String text = whole.substring(0, at) + (char) sign + whole.substring(at + 1);
                edge.is("byte " + sign + " at " + at, tape(text), -100 - at);
            }
            edge.is("byte " + sign + " behind it", tape(whole + (char) sign), -115);
        }
        edge.is("the first of two faults", tape("w+*x"), -102);
        edge.is("a ) that closes nothing", tape("w)"), -101);
        edge.is("one ) too many", tape("(w))"), -103);
        edge.is("a fault at the last of sixty bytes", tape("w" + "+w".repeat(29) + "x"), -159);
    }

    private static void textsThatEndTooEarly() {
        edge.says(0, "FAULT likewise; the length, if it ends too early.");
        String whole = "1?-w<(2+s)*!m;a";
        for (int n = 0; n <= whole.length(); n++) {
            boolean isOne = n == 1 || n == 4 || n == 10 || n == 13 || n == 15;
            edge.is("the first " + n + " bytes", tape(whole.substring(0, n)), isOne ? 1 : -100 - n);
        }
        edge.is("sixty bytes that are no end", tape("w" + "+w".repeat(29) + "+"), -160);
        edge.is("sixty bytes that are one", tape("-w" + "+w".repeat(29)), 1);
    }

    private static void breaksOfADay() {
        edge.says(0, "BREAKS of a RULE on a DAY: COMERS (with a START) served at their told START (EARLY else), that are not NEXT then at their "
                + "DOOR: how many, the i-th (by numbers).");
        PushedIn x = Due.yard("15-35@2m0s2", "10-30@1m0s1", "5-40@0m0s0");
        x.rule(1, 0, 0);
        edge.is("two that pushed in", x.breaks(0, 0, -1), 2);
        edge.is("by numbers, not by starts", x.breaks(0, 0, 0), 0);
        edge.is("the last", x.breaks(0, 0, 1), 1);
        x.start(2, 24);
        edge.is("the first one was gone ahead of 25", x.breaks(0, 0, -1), 1);
        x.start(2, 25);
        edge.is("the first one is still there at 25", x.breaks(0, 0, -1), 2);
        x.start(2, -1);
        x.start(0, 14);
        edge.is("one that was told ahead of its in", x.breaks(0, 0, 0), 0);
        PushedIn y = Due.yard("5-40@0m0s0", "6-40@0m0s0");
        y.rule(1, 0, 0);
        y.start(1, 20);
        edge.is("one without a start, though told", y.breaks(0, 0, -1), 0);
        PushedIn z = Due.yard("5-40@0m0s0", "10-30@1m0s0l0");
        z.rule(1, 0, 0);
        edge.is("of one line", z.breaks(0, 0, -1), 1);
        z.yard(2, 1);
        edge.is("at its door, in whose line it does not stand", z.breaks(0, 0, 0), 1);
        edge.is("the other one is next at its door", z.breaks(0, 0, -1), 1);
    }

    private static void keptDays() {
        edge.says(0, "KEPT: DAYS with COMERS on which it has none, as bits.");
        PushedIn x = new PushedIn();
        x.rule(1, 0, 0);
        edge.is("no comers", x.kept(0), 0);
        for (int day = 0; day < 4; day++) {
            x.yard(0, day);
            Due.comer(x, "5-40@0m0s0");
            edge.is("days up to " + day, x.kept(0), (2 << day) - 1);
        }
        Due.comer(x, "6-30@1m0s0");
        edge.is("a break on day 3", x.kept(0), 7);
        x.yard(0, 0);
        Due.comer(x, "6-30@1m0s0");
        edge.is("a break on day 0, too", x.kept(0), 6);
        PushedIn y = Due.yard("5-40@0m0s0");
        y.away(0, 39039);
        y.rule(1, 0, 0);
        edge.is("a day of one without starts", y.kept(0), 1);
    }

    private static void findTheLeast() {
        edge.says(0, "FIND: of all RULES that with the least 10 times BREAKS (of all DAYS) and PRICE; of like ones the "
                + "first: which, and that.");
        PushedIn x = Due.yard("5-40@0m0s0", "6-30@1m0s1");
        x.rule(1, 0, 99);
        edge.is("one break and 99", x.find(1), 109);
        x.rule(3, 100, 99);
        edge.is("no break and 99", x.find(0), 1);
        edge.is("that", x.find(1), 99);
        x.rule(1, 0, 89);
        edge.is("one break and 89: a like one", x.find(0), 1);
        x.rule(1, 0, 88);
        edge.is("one break and 88", x.find(0), 3);
        edge.is("that is", x.find(1), 98);
        x.yard(0, 3);
        Due.comer(x, "5-40@0m0s0");
        Due.comer(x, "6-30@1m0s0");
        edge.is("one break more on another day", x.find(1), 108);
        edge.is("of 109, 119, 108: the last", x.find(0), 3);
        x.rule(0, 0, 87);
        edge.is("the last rule of all", x.find(0), 4);
        PushedIn y = TWENTY.get();
        edge.is("the last of twenty", y.find(0), 19);
        PushedIn z = Due.yard("6-30@1m0s1", "5-40@0m0s0");
        z.rule(1, 0, 3);
        edge.is("a break of comer 0", z.find(1), 13);
        edge.is("its price", y.find(1), 80);
    }

    private static void ledBy() {
        edge.says(0, "LED: of a COMER the RULES by which it was NEXT at its told START (EARLY else), as bits.");
        PushedIn x = Due.yard("5-40@0m0s0", "10-30@1m0s1");
        edge.is("no rules", x.led(0), 0);
        x.rule(1, 0, 0);
        x.rule(5, 0, 0);
        x.rule(3, 100, 0);
        edge.is("at 30, alone", x.led(0), 0b111);
        edge.is("at 20", x.led(1), 0b110);
        x.start(0, 20);
        edge.is("told 20", x.led(0), 0b001);
        x.start(1, 19);
        edge.is("told 20, the other one gone at 19", x.led(0), 0b111);
        x.start(1, 9);
        edge.is("told ahead of its in", x.led(1), 0);
        x.away(1, 29029);
        x.start(1, -1);
        edge.is("neither", x.led(1), 0);
        x.start(1, 20);
        edge.is("told of one that has none", x.led(1), 0b110);
        edge.is("twenty rules", TWENTY.get().led(0), (1 << 20) - 1);
        PushedIn first = Due.yard("0-1@0m0s0");
        first.rule(1, 0, 0);
        edge.is("next at minute 0", first.led(0), 1);
        first.start(0, 0);
        edge.is("told minute 0", first.led(0), 1);
    }

    // ---- promises

    private static void rule() {
        edge.says(17, "A RULE of a KIND (0 .. 7): its number. BAD, FULL.");
        edge.bounds(Yards.BUSY, 0, 7, "rule", HERE, 9999, 99);
        edge.bounds(Yards.BUSY, 0, 99, "rule", 0, 0, HERE);
        edge.refused(-3, TWENTY, "rule", 0, 0, 0);
        edge.refused(-1, TWENTY, "rule", 8, 0, 0);
        edge.refused(-1, TWENTY, "rule", 0, -1, 0);
        edge.refused(-1, TWENTY, "rule", 0, 0, 100);
        edge.is("the next number", Yards.BUSY.get().rule(0, 0, 0), 8);
        edge.says(17, "ab: 100 a and b.");
        edge.bounds(Yards.BUSY, 0, 9999, "rule", 0, HERE, 0);
        PushedIn x = Due.yard("5-40@0m0s0", "10-40@1m0s1");
        x.rule(7, 1234, 0);
        Due.text(x, "s&a=12&b=34");
        edge.is("a 12, b 34", x.next(0, 0, 20), 1);
    }

    private static void text() {
        edge.says(18, "THE TAPE becomes THE TEXT: 1; -100 less its FAULT; THE TAPE is empty then.");
        PushedIn x = Worth.yard();
        edge.is("an empty tape", x.text(), -100);
        edge.is("a text", Due.text(x, "s"), 1);
        edge.is("the tape is empty then", x.count(2), 0);
        edge.is("an empty tape again", x.text(), -100);
        edge.is("a fault", Due.text(x, "-s)"), -102);
        edge.is("the tape is empty then, too", x.count(2), 0);
        edge.is("the text before stays", x.next(0, 0, 30), 1);
        edge.is("the longest tape", Due.text(x, "-s" + "+1".repeat(29)), 1);
        edge.is("the text is another", x.next(0, 0, 30), 0);
        edge.is("the longest tape the other way about", Due.text(x, "-9+s" + "+1".repeat(28)), 1);
        edge.is("it counts to its end", x.next(0, 0, 30), 1);
        edge.is("a comer is no text", Due.text(x, "5-9@0m0s0"), -103);
        edge.is("in a full yard, too", Yards.FULL.get().text(), -103);
    }

    private static void next() {
        edge.says(19, "NEXT by a RULE at a MINUTE t at a DOOR: the COMER; NOT: nobody. BAD.");
        edge.bounds(Yards.BUSY, 0, 7, "next", HERE, 0, 20);
        edge.bounds(Yards.BUSY, 0, 719, "next", 0, 0, HERE);
        edge.bounds(TWENTY, 0, 19, "next", HERE, 0, 20);
        edge.refused(-1, Yards.EMPTY, "next", 0, 0, 0);
        PushedIn x = new PushedIn();
        x.rule(0, 0, 0);
        edge.is("nobody", x.next(0, 0, 0), -2);
        edge.says(19, "dd: 10 times the DAY and the DOOR.");
        for (int dd : new int[] {0, 3, 10, 13, 30, 33}) {
            edge.taken(Yards.BUSY, "next", 0, dd, 20);
        }
        for (int dd : new int[] {4, 9, 14, 34, 39, 40, 43, -1, -10, -7, 100, Integer.MIN_VALUE, Integer.MAX_VALUE}) {
            edge.refused(-1, Yards.BUSY, "next", 0, dd, 20);
        }
        edge.is("day 1", Yards.BUSY.get().next(0, 10, 6), 4);
    }

    private static void breaks() {
        edge.says(20, "BREAKS on a DAY: how many (i -1), the i-th. BAD (also none such).");
        edge.bounds(Yards.BUSY, 0, 7, "breaks", HERE, 0, -1);
        edge.bounds(Yards.BUSY, 0, 3, "breaks", 0, HERE, -1);
        Supplier<PushedIn> two = () -> {
            PushedIn x = Due.yard("5-40@0m0s0", "10-30@1m0s1", "15-35@2m0s2");
            x.rule(1, 0, 0);
            return x;
        };
        edge.is("how many", two.get().breaks(0, 0, -1), 2);
        edge.is("the 0th", two.get().breaks(0, 0, 0), 1);
        edge.is("the 1st", two.get().breaks(0, 0, 1), 2);
        edge.bounds(two, -1, 1, "breaks", 0, 0, HERE);
        edge.is("how many of an empty day", two.get().breaks(0, 3, -1), 0);
        edge.refused(-1, two, "breaks", 0, 3, 0);
        edge.refused(-1, Yards.EMPTY, "breaks", 0, 0, -1);
    }

    private static void kept() {
        edge.says(21, "KEPT, as bits. BAD.");
        edge.bounds(Yards.BUSY, 0, 7, "kept", HERE);
        edge.bounds(TWENTY, 0, 19, "kept", HERE);
        edge.refused(-1, Yards.EMPTY, "kept", 0);
        edge.is("day 0 alone", TWENTY.get().kept(19), 1);
    }

    private static void find() {
        edge.says(22, "FIND: the RULE (what 0), that sum (1). BAD; STATE: no RULES.");
        edge.bounds(Yards.BUSY, 0, 1, "find", HERE);
        edge.refused(-5, Yards.EMPTY, "find", 0);
        edge.refused(-5, Yards.EMPTY, "find", 1);
        edge.refused(-1, Yards.EMPTY, "find", 2);
        edge.refused(-1, Yards.EMPTY, "find", -1);
        PushedIn x = new PushedIn();
        x.rule(7, 0, 5);
        edge.is("the only one", x.find(0), 0);
        edge.is("its sum", x.find(1), 5);
    }

    private static void led() {
        edge.says(23, "LED, as bits. BAD.");
        edge.bounds(Yards.BUSY, 0, 4, "led", HERE);
        edge.bounds(Yards.FULL, 0, 39, "led", HERE);
        edge.refused(-1, Yards.EMPTY, "led", 0);
        edge.is("without rules", Due.yard("5-40@0m0s0").led(0), 0);
    }
}
