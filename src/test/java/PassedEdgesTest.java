/** Part 2 of the terms and promises 11 to 16: each sentence at its edges. */
public final class PassedEdgesTest {
    private static final Edges edge = new Edges();
    private static final long HERE = Edges.HERE;

    public static void main(String[] args) {
        daysAndLines();
        later();
        startIsLess();
        surelyAndMay();
        pairsOfADay();
        toldStarts();
        mistold();
        passesByTold();
        fewestOfHowMany();
        fewestOverAllStarts();
        passed();
        pairs();
        start();
        judge();
        whom();
        fewest();
        edge.end();
    }

    /** 0 came at 5 and starts at 30 to 39; 1 came at 10, at another door, and starts at out less 10 to out less 1. */
    private static PushedIn two(int out) {
        return Due.yard("5-40@0m0s0", "10-" + out + "@1m0s0");
    }

    // ---- terms

    private static void daysAndLines() {
        edge.says(0, "======== 2 PASSED: of two COMERS of one DAY (and, if lines are one a door (told; else one for "
                + "all), of one LINE):");
        PushedIn x = Due.yard("5-40@0m0s0", "10-30@1m0s0", "10-29@2m0s0l0");
        x.yard(0, 1);
        Due.comer(x, "10-30@1m0s0");
        edge.is("of one day", x.passed(100, 0), 1);
        edge.is("of two days", x.passed(300, 0), -1);
        edge.is("one line for all", x.passed(200, 0), 1);
        x.yard(2, 1);
        edge.is("of two lines", x.passed(100, 0), 0);
        edge.is("of two doors but one line", x.passed(200, 0), 1);
        PushedIn y = Due.yard("5-40@0m0s0", "10-29@0m0s0l1");
        edge.is("of one door", y.passed(100, 0), 1);
        y.yard(2, 1);
        edge.is("of one door but two lines", y.passed(100, 0), 0);
        y.yard(2, 0);
        edge.is("one line for all again", y.passed(100, 0), 1);
    }

    private static void later() {
        edge.says(0, "p came in LATER than q, if IN of p less SLACK is above IN of q and SLACK.");
        PushedIn x = two(30);
        int[] ins = {9, 8, 7, 6, 5, 4};
        for (int slack = 0; slack <= 2; slack++) {
            x.yard(1, slack);
            for (int in : ins) {
                x.came(1, in);
                edge.is("in at " + in + " and 5, slack " + slack, x.passed(100, 0), in - slack > 5 + slack ? 1 : 0);
            }
        }
        PushedIn y = Due.yard("0-40@0m0s0", "1-30@1m0s0");
        y.yard(1, 30);
        edge.is("0 at least is not above 30", y.passed(100, 1), 0);
        PushedIn z = Due.yard("0-200@0m0s0", "61-100@1m0s0", "60-101@2m0s0");
        z.yard(1, 30);
        edge.is("31 is above 30", z.passed(100, 0), 1);
        edge.is("30 is not above 30", z.passed(200, 0), 0);
    }

    private static void startIsLess() {
        edge.says(0, "p passed q, if it is LATER and its START is less.");
        PushedIn x = two(40);
        edge.is("the same start", x.whom(1), 0);
        x.start(1, 29);
        edge.is("a start less by one", x.whom(1), 1);
        x.start(0, 29);
        edge.is("the same told start", x.whom(1), 0);
        x.start(0, 28);
        edge.is("not later, though its start is less", x.whom(0), 0);
        edge.is("later, but its start is more", x.whom(1), 0);
    }

    private static void surelyAndMay() {
        edge.says(0, "SURELY: each START of p is less than each of q; MAY: some START of p is less than some of q. "
                + "(Of COMERS with STARTS.)");
        int[] outs = {30, 31, 48, 49};
        int[] surely = {1, 0, 0, 0};
        int[] may = {1, 1, 1, 0};
        for (int i = 0; i < outs.length; i++) {
            PushedIn x = two(outs[i]);
            edge.is("surely, out at " + outs[i], x.passed(100, 0), surely[i]);
            edge.is("may, out at " + outs[i], x.passed(100, 1), may[i]);
            edge.is("the other way surely", x.passed(1, 0), 0);
            edge.is("the other way may", x.passed(1, 1), 0);
        }
        PushedIn y = two(30);
        y.start(1, 700);
        edge.is("whatever was told", y.passed(100, 0), 1);
        y.away(1, 29029);
        edge.is("p without starts, surely", y.passed(100, 0), 0);
        edge.is("p without starts, may", y.passed(100, 1), 0);
        PushedIn z = two(30);
        z.away(0, 39039);
        edge.is("q without starts, surely", z.passed(100, 0), 0);
        edge.is("q without starts, may", z.passed(100, 1), 0);
        z.start(0, 35);
        edge.is("q without starts but told", z.passed(100, 1), 0);
    }

    private static void pairsOfADay() {
        edge.says(0, "PAIRS of a DAY: how many SURELY, MAY.");
        PushedIn x = new PushedIn();
        edge.is("of an empty day", x.pairs(0, 1), 0);
        Due.comer(x, "5-40@0m0s0");
        edge.is("of one comer", x.pairs(0, 1), 0);
        Due.comer(x, "10-30@1m0s0");
        edge.is("surely of two", x.pairs(0, 0), 1);
        Due.comer(x, "15-35@2m0s0");
        edge.is("surely of three", x.pairs(0, 0), 1);
        edge.is("may of three", x.pairs(0, 1), 3);
        x.away(2, 34034);
        edge.is("may of two with starts", x.pairs(0, 1), 1);
        edge.is("comer 0 passed comer 1", Due.yard("10-30@1m0s0", "5-40@0m0s0").pairs(0, 0), 1);
        PushedIn y = forty(true);
        edge.is("surely of forty", y.pairs(0, 0), 39);
        edge.is("may of forty", y.pairs(0, 1), 39);
    }

    /** Forty comers with starts, in order of their coming; the last one, if it pushes, ahead of them all. */
    private static PushedIn forty(boolean pushes) {
        PushedIn x = new PushedIn();
        for (int i = 0; i < 39; i++) {
            Due.comer(x, i + "-" + (110 + 15 * i) + "@" + i % 4 + "m0s0");
        }
        Due.comer(x, "50-" + (pushes ? 70 : 719) + "@3m0s0");
        return x;
    }

    private static void toldStarts() {
        edge.says(0, "JUDGED: for told STARTS (by call, whatever they are; EARLY else; a COMER with neither is left "
                + "out):");
        PushedIn x = Due.yard("5-40@0m0s0", "10-30@1m0s0", "6-30@1m0s0");
        edge.is("it has no starts", x.of(2, 9), -2);
        edge.is("untold: early, and the one with neither is left out", x.judge(0, 1), 1);
        edge.is("nobody is told", x.judge(0, 0), -2);
        edge.is("told ahead of its coming", x.start(0, 0), 1);
        edge.is("no more passes", x.judge(0, 1), 0);
        edge.is("told behind all", x.start(0, 719), 1);
        edge.is("a pass", x.judge(0, 1), 1);
        edge.is("told of one with none", x.start(2, 718), 1);
        edge.is("it counts: it passed 0, and 1 passed it", x.judge(0, 1), 3);
        edge.is("early again", x.start(0, -1), 1);
        edge.is("and left out again", x.start(2, -1), 1);
        edge.is("as at first", x.judge(0, 1), 1);
    }

    private static void mistold() {
        edge.says(0, "the first COMER of a DAY whose told START is none of its STARTS;");
        PushedIn x = two(30);
        int[] told = {0, 19, 20, 29, 30, 719, -1};
        int[] first = {1, 1, -2, -2, 1, 1, -2};
        for (int i = 0; i < told.length; i++) {
            x.start(1, told[i]);
            edge.is("told " + told[i] + " of 20 to 29", x.judge(0, 0), first[i]);
        }
        x.start(1, 19);
        x.start(0, 40);
        edge.is("the first of two", x.judge(0, 0), 0);
        x.start(0, 39);
        edge.is("the second alone", x.judge(0, 0), 1);
        edge.is("of another day", x.judge(1, 0), -2);
        x.away(0, 719);
        edge.is("one that has no starts any more", x.judge(0, 0), 0);
    }

    private static void passesByTold() {
        edge.says(0, "how many passed whom by these; WHOM one passed: as bits of COMERS.");
        PushedIn x = forty(false);
        edge.is("nobody passed", x.judge(0, 1), 0);
        x.start(39, 0);
        edge.is("the last passed all", x.judge(0, 1), 39);
        edge.is("as bits", x.whom(39), (1L << 39) - 1);
        x.start(39, -1);
        x.start(0, 719);
        edge.is("all passed the first", x.judge(0, 1), 39);
        edge.is("the last passed the first", x.whom(39), 1);
        edge.is("the second passed the first", x.whom(1), 1);
        edge.is("the first passed nobody", x.whom(0), 0);
        PushedIn y = Due.yard("1-30@0m0s0");
        for (int i = 1; i < 39; i++) {
            Due.comer(y, i + 1 + "-719@1m0s0");
        }
        Due.comer(y, "0-719@2m0s0");
        edge.is("the bit of the last comer", y.whom(0), 1L << 39);
    }

    private static void fewestOfHowMany() {
        edge.says(0, "FEWEST: of told COMERS (1 .. 6, of one DAY, each with STARTS):");
        PushedIn x = forty(false);
        edge.is("of none", x.fewest(0), -1);
        edge.is("of the first", x.fewest(1), 0);
        edge.is("of the last", x.fewest(1L << 39), 0);
        edge.is("of no such one", x.fewest(1L << 40), -1);
        edge.is("of one and no such one", x.fewest(1L << 63 | 1), -1);
        edge.is("of six", x.fewest(0b111111), 0);
        edge.is("of six others", x.fewest(0b11111L << 35 | 1), 0);
        edge.is("of seven", x.fewest(0b1111111), -1);
        edge.is("of all", x.fewest((1L << 40) - 1), -1);
        PushedIn y = Yards.BUSY.get();
        edge.is("of one day", y.fewest(0b111), 0);
        edge.is("of two days", y.fewest(0b1001), -1);
        edge.is("of one without starts", y.fewest(0b10000), -1);
        edge.is("of two, one without starts", y.fewest(0b11000), -1);
    }

    private static void fewestOverAllStarts() {
        edge.says(0, "the fewest that can pass among them, over all STARTS of each.");
        edge.is("29 is less than 30: one surely", two(30).fewest(3), 1);
        edge.is("both can start at 30", two(31).fewest(3), 0);
        edge.is("comer 0 surely passed comer 1", Due.yard("10-30@1m0s0", "5-40@0m0s0").fewest(3), 1);
        edge.is("one that starts at minute 0", Due.yard("0-1@0m0s0").fewest(1), 0);
        edge.is("two that start at minute 0", Due.yard("0-1@0m0s0", "0-1@1m0s0").fewest(3), 0);
        PushedIn x = Due.yard("1-40@0m0s0", "2-35@1m0s0", "3-30@2m0s0");
        edge.is("one surely passed", x.pairs(0, 0), 1);
        edge.is("three may have", x.pairs(0, 1), 3);
        edge.is("two at the least, as 1 can start along with 0 or with 2", x.fewest(7), 2);
        x.yard(2, 1);
        edge.is("none in lines of one each", x.fewest(7), 0);
        x.yard(2, 0);
        x.yard(1, 1);
        edge.is("none with a slack of one", x.fewest(7), 0);
        x.yard(1, 0);
        x.start(2, 39);
        edge.is("whatever was told", x.fewest(7), 2);
        PushedIn y = Due.yard("1-99@0m0s0", "2-20@0m0s0", "3-20@1m0s0", "4-20@2m0s0", "5-20@3m0s0", "6-40@0m0s0");
        edge.is("five pass the first one", y.fewest(63), 5);
    }

    // ---- promises

    private static void passed() {
        edge.says(11, "SURELY (what 0), MAY (1): 1, 0. BAD (one and the same, of two DAYS).");
        edge.bounds(Yards.BUSY, 0, 1, "passed", 100, HERE);
        edge.refused(-1, Yards.BUSY, "passed", 101, 0);
        edge.refused(-1, Yards.BUSY, "passed", 0, 1);
        edge.refused(-1, Yards.BUSY, "passed", 3, 0);
        edge.refused(-1, Yards.BUSY, "passed", 300, 1);
        edge.refused(-1, Yards.EMPTY, "passed", 1, 0);
        edge.says(11, "pq: 100 times the one and the other.");
        edge.is("1 passed 0", two(30).passed(100, 0), 1);
        edge.is("0 passed 1", two(30).passed(1, 0), 0);
        edge.taken(Yards.BUSY, "passed", 304, 0);
        edge.taken(Yards.BUSY, "passed", 403, 0);
        int[] wrong = {5, 105, 500, 501, 199, -1, -100, -101, -99, 10000, Integer.MIN_VALUE, Integer.MAX_VALUE};
        for (int pq : wrong) {
            edge.refused(-1, Yards.BUSY, "passed", pq, 0);
        }
        edge.taken(Yards.FULL, "passed", 3938, 1);
        edge.refused(-1, Yards.FULL, "passed", 4039, 1);
        edge.refused(-1, Yards.FULL, "passed", 3940, 1);
    }

    private static void pairs() {
        edge.says(12, "PAIRS of a DAY (what as in passed()). BAD.");
        edge.bounds(Yards.BUSY, 0, 3, "pairs", HERE, 0);
        edge.bounds(Yards.BUSY, 0, 1, "pairs", 0, HERE);
        PushedIn x = new PushedIn();
        x.yard(0, 3);
        Due.comer(x, "5-40@0m0s0");
        Due.comer(x, "10-31@1m0s0");
        edge.is("surely of day 3", x.pairs(3, 0), 0);
        edge.is("may of day 3", x.pairs(3, 1), 1);
        edge.is("may of day 0", x.pairs(0, 1), 0);
    }

    private static void start() {
        edge.says(13, "A START is told of a COMER (-1: EARLY again): 1. BAD (0 .. 719).");
        edge.bounds(Yards.BUSY, 0, 4, "start", HERE, 20);
        edge.bounds(Yards.BUSY, -1, 719, "start", 0, HERE);
        edge.refused(-1, Yards.EMPTY, "start", 0, -1);
        PushedIn x = two(30);
        edge.is("told", x.start(1, 719), 1);
        edge.is("told again", x.start(1, 0), 1);
        edge.is("early again", x.start(1, -1), 1);
        edge.is("early again, though untold", x.start(1, -1), 1);
        edge.is("early stays what it is", x.of(1, 9), 20);
    }

    private static void judge() {
        edge.says(14, "JUDGED of a DAY: the COMER (what 0; NOT), how many passes (1). BAD.");
        edge.bounds(Yards.BUSY, 0, 3, "judge", HERE, 0);
        edge.bounds(Yards.BUSY, 0, 1, "judge", 0, HERE);
        PushedIn x = Yards.BUSY.get();
        edge.is("nobody on day 0", x.judge(0, 0), -2);
        edge.is("4 on day 1", x.judge(1, 0), 4);
        edge.is("nobody on day 3", x.judge(3, 0), -2);
        edge.is("no passes on day 3", x.judge(3, 1), 0);
    }

    private static void whom() {
        edge.says(15, "WHOM a COMER passed by told STARTS, as bits. BAD.");
        edge.bounds(Yards.BUSY, 0, 4, "whom", HERE);
        edge.bounds(Yards.FULL, 0, 39, "whom", HERE);
        edge.refused(-1, Yards.EMPTY, "whom", 0);
        PushedIn x = Due.yard("5-40@0m0s0", "10-30@1m0s0", "7-40@2m0s0");
        x.yard(0, 1);
        Due.comer(x, "5-40@0m0s0");
        edge.is("two of its day", x.whom(1), 0b101);
        edge.is("nobody", x.whom(3), 0);
    }

    private static void fewest() {
        edge.says(16, "FEWEST of told COMERS (bits). BAD.");
        long[] wrong = {0, 0b1001, 0b10000, 0b100000, 1L << 40, Long.MIN_VALUE, -1, Long.MAX_VALUE, 1L << 32};
        for (long told : wrong) {
            edge.refused(-1, Yards.BUSY, "fewest", told);
        }
        edge.refused(-1, Yards.EMPTY, "fewest", 0);
        edge.refused(-1, Yards.EMPTY, "fewest", 1);
        edge.taken(Yards.BUSY, "fewest", 0b111);
        edge.taken(Yards.BUSY, "fewest", 0b1000);
        edge.is("a bit above the 31st", forty(false).fewest(1L << 39 | 1L << 32 | 1), 0);
        edge.is("the last one surely passed", forty(true).fewest(1L << 39 | 1L << 32 | 1), 2);
    }
}
