/** Promises 11 to 16: who passed whom. */
public final class PassedTest {
    private static final Due due = new Due();

    public static void main(String[] args) {
        passed();
        slackAndLines();
        pairs();
        start();
        judge();
        whom();
        fewest();
        due.end();
    }

    private static void passed() {
        // 0 starts at 30 to 39, 1 at 20 to 29, 2 at 25 to 34: of three doors.
        PushedIn x = Due.yard("5-40@0m0s0", "10-30@1m0s0", "15-35@2m0s0");
        due.is("surely", x.passed(100, 0), 1);
        due.is("may as well", x.passed(100, 1), 1);
        due.is("not the other way", x.passed(1, 1), 0);
        due.is("not surely, as 34 is above 30", x.passed(200, 0), 0);
        due.is("may", x.passed(200, 1), 1);
        due.is("may, later but mostly behind", x.passed(201, 1), 1);
        due.is("one and the same", x.passed(101, 0), -1);
        due.is("no such one", x.passed(3, 0), -1);
        due.is("no such other", x.passed(300, 0), -1);
        due.is("below", x.passed(-1, 0), -1);
        due.is("far below", x.passed(-100, 0), -1);
        due.is("what below", x.passed(100, -1), -1);
        due.is("what above", x.passed(100, 2), -1);
        x.yard(0, 1);
        Due.comer(x, "5-40@0m0s0");
        due.is("of two days", x.passed(103, 0), -1);
        x.away(0, 39039);
        due.is("one without starts passes nobody", x.passed(100, 1), 0);
        // Late of the one at early of the other is no surely; early at late no may.
        PushedIn y = Due.yard("5-40@0m0s0", "10-31@1m0s0", "15-49@2m0s0");
        due.is("late 30, early 30", y.passed(100, 0), 0);
        due.is("early 39, late 39", y.passed(200, 1), 0);
        y.came(1, 5);
        due.is("in at the same minute", y.passed(100, 1), 0);
    }

    private static void slackAndLines() {
        PushedIn x = Due.yard("5-40@0m0s0", "10-30@1m0s0");
        x.yard(1, 2);
        due.is("8 is above 7", x.passed(100, 0), 1);
        x.yard(1, 3);
        due.is("7 is not above 8", x.passed(100, 0), 0);
        x.yard(1, 0);
        x.yard(2, 1);
        due.is("of two lines", x.passed(100, 0), 0);
        PushedIn y = Due.yard("5-40@0m0s0", "10-30@1m0s0l0");
        y.yard(2, 1);
        due.is("of one line at two doors", y.passed(100, 0), 1);
    }

    private static void pairs() {
        PushedIn x = Due.yard("5-40@0m0s0", "10-30@1m0s0", "15-35@2m0s0");
        due.is("pairs surely", x.pairs(0, 0), 1);
        due.is("pairs may", x.pairs(0, 1), 3);
        due.is("pairs of an empty day", x.pairs(1, 1), 0);
        due.is("pairs day below", x.pairs(-1, 0), -1);
        due.is("pairs day above", x.pairs(4, 0), -1);
        due.is("pairs what below", x.pairs(0, -1), -1);
        due.is("pairs what above", x.pairs(0, 2), -1);
        x.yard(0, 2);
        Due.comer(x, "5-40@0m0s0");
        Due.comer(x, "15-35@2m0s0");
        due.is("pairs of two days stay apart", x.pairs(0, 1), 3);
        due.is("pairs of the other day", x.pairs(2, 1), 1);
    }

    private static void start() {
        PushedIn x = Due.yard("5-40@0m0s0");
        due.is("start comer below", x.start(-1, 0), -1);
        due.is("start comer above", x.start(1, 0), -1);
        due.is("start below", x.start(0, -2), -1);
        due.is("start above", x.start(0, 720), -1);
        due.is("start 719", x.start(0, 719), 1);
        due.is("start 0", x.start(0, 0), 1);
        due.is("start early again", x.start(0, -1), 1);
        due.is("start is no change", x.count(4), 0);
        due.is("early stays", x.of(0, 9), 30);
    }

    private static void judge() {
        PushedIn x = Due.yard("5-40@0m0s0", "10-30@1m0s0", "6-30@1m0s0");
        due.is("judge untold", x.judge(0, 0), -2);
        due.is("judge day below", x.judge(-1, 0), -1);
        due.is("judge day above", x.judge(4, 0), -1);
        due.is("judge what below", x.judge(0, -1), -1);
        due.is("judge what above", x.judge(0, 2), -1);
        due.is("passes by early starts", x.judge(0, 1), 1);
        x.start(1, 30);
        due.is("told behind late", x.judge(0, 0), 1);
        due.is("30 is not less than 30", x.judge(0, 1), 0);
        x.start(1, 19);
        due.is("told ahead of early", x.judge(0, 0), 1);
        x.start(1, 29);
        due.is("told right", x.judge(0, 0), -2);
        x.start(1, 20);
        due.is("told early", x.judge(0, 0), -2);
        x.start(2, 15);
        due.is("told of one without starts", x.judge(0, 0), 2);
        due.is("it counts", x.judge(0, 1), 2);
        x.start(0, 9);
        due.is("the first by numbers", x.judge(0, 0), 0);
        due.is("judge another day", x.judge(1, 0), -2);
        due.is("judge another day's passes", x.judge(1, 1), 0);
    }

    private static void whom() {
        PushedIn x = Due.yard("5-40@0m0s0", "10-30@1m0s0", "6-30@1m0s0");
        due.is("whom below", x.whom(-1), -1);
        due.is("whom above", x.whom(3), -1);
        due.is("whom by early", x.whom(1), 1);
        due.is("whom with neither", x.whom(2), 0);
        x.start(2, 50);
        due.is("whom passed, as one is told", x.whom(1), 5);
        x.yard(2, 1);
        due.is("whom by lines", x.whom(1), 4);
        PushedIn y = new PushedIn();
        for (int i = 0; i < 39; i++) {
            Due.comer(y, "1-700@" + i % 4 + "m0s0");
            y.start(i, 699);
        }
        Due.comer(y, "2-9@0m0s0");
        due.is("whom as bits above 31", y.whom(39), (1L << 39) - 1);
    }

    private static void fewest() {
        PushedIn x = Due.yard("5-40@0m0s0", "10-30@1m0s0", "15-35@2m0s0", "16-35@2m0s0");
        due.is("fewest of none", x.fewest(0), -1);
        due.is("fewest of no such", x.fewest(16), -1);
        due.is("fewest of the 63rd", x.fewest(Long.MIN_VALUE), -1);
        due.is("fewest of all bits", x.fewest(-1), -1);
        due.is("fewest of one", x.fewest(1), 0);
        due.is("fewest of a sure pass", x.fewest(3), 1);
        due.is("fewest of one that may", x.fewest(5), 0);
        due.is("fewest of three", x.fewest(7), 1);
        due.is("fewest of one without starts", x.fewest(9), -1);
        x.yard(2, 1);
        due.is("fewest by lines", x.fewest(7), 0);
        x.yard(0, 1);
        Due.comer(x, "5-40@0m0s0");
        due.is("fewest of two days", x.fewest(17), -1);
        due.is("fewest of one at minute 0", Due.yard("0-1@0m0s0").fewest(1), 0);
        // Each of five surely passes the first: five passes, not one.
        PushedIn y = Due.yard("1-99@0m0s0", "2-20@0m0s0", "3-20@1m0s0", "4-20@2m0s0", "5-20@3m0s0",
                "6-40@0m0s0", "7-50@0m0s0");
        due.is("fewest of six", y.fewest(63), 5);
        due.is("fewest of seven", y.fewest(127), -1);
    }
}
