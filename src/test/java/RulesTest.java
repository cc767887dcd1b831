/** Promises 17 to 23: rules. */
public final class RulesTest {
    private static final Due due = new Due();

    public static void main(String[] args) {
        rule();
        textFaults();
        textWorth();
        textStays();
        nextByKinds();
        nextAtEdges();
        breaksAndKept();
        find();
        led();
        due.end();
    }

    private static void rule() {
        PushedIn x = new PushedIn();
        due.is("kind below", x.rule(-1, 0, 0), -1);
        due.is("kind above", x.rule(8, 0, 0), -1);
        due.is("ab below", x.rule(0, -1, 0), -1);
        due.is("ab above", x.rule(0, 10000, 0), -1);
        due.is("price below", x.rule(0, 0, -1), -1);
        due.is("price above", x.rule(0, 0, 100), -1);
        due.is("no rule of these", x.count(1), 0);
        for (int i = 0; i < 20; i++) {
            due.is("rule " + i, x.rule(i % 8, 9999, 99), i);
        }
        due.is("rules full", x.rule(0, 0, 0), -3);
        due.is("bad ahead of full", x.rule(8, 0, 0), -1);
        due.is("rules", x.count(1), 20);
    }

    private static void textFaults() {
        String[] faulty = {
            "", "0", ";", "0", "w;", "2", "w;;w", "2", "?w", "0", "w?", "2", "w?w?w", "3", "w?w;?", "4",
            "w w", "1", "ww", "1", "12345", "4", "1a", "1", "x", "0", "W", "0", "w|", "2", "w||w", "2",
            "w&", "2", "w<", "2", "w<s<m", "3", "w=s>m", "3", "w+", "2", "w++w", "2", "w*/w", "2", "*w", "0",
            "(", "1", "(w", "2", "()", "1", "(w))", "3", "w)", "1", "(w?w)", "2", "(w;w)", "2", "!", "1",
            "!)", "1", "-", "1", "!!!!!!!w", "6", "-------w", "6", "(((((((w", "6", "(!-(!-(w", "6",
            "w+((((((w))))))+(((((((w", "22", "w.", "1", "w,s", "1", "w<=s", "2", "w!s", "1", "w!=s", "1",
            "(w)(s)", "3", "(w)1", "3", "!!!!!!", "6",
        };
        for (int i = 0; i < faulty.length; i += 2) {
            PushedIn x = new PushedIn();
            due.is("text " + faulty[i], Due.text(x, faulty[i]), -100 - Integer.parseInt(faulty[i + 1]));
            due.is("the tape is empty behind a fault", x.count(2), 0);
        }
        PushedIn x = new PushedIn();
        x.feed(2, 'w' | 200 << 8);
        due.is("text with a byte above 127", x.text(), -101);
        x.feed(1, 0);
        due.is("text with a byte 0", x.text(), -100);
        String[] good = {
            "w", "0", "9999", "0000", "w?s", "w?s;m", "w;s;m;l;n;d;a;b", "w--s", "w-!s", "!!!!!!w", "((((((w))))))",
            "!(!(!(w)))", "(w<s)<m", "w<s&s<m|m<l&l<n", "-1*-2/-3%-4", "w?((((((w))))))", "((((((w))))))?!!!!!!w",
            "w>20?50;s=a&!d;l-n", "------1------1",
        };
        for (String text : good) {
            due.is("text " + text, Due.text(x, text), 1);
            due.is("the tape is empty", x.count(2), 0);
        }
    }

    private static void textWorth() {
        String[][] worths = {
            {"7", "7"}, {"0007", "7"}, {"1+2*3", "7"}, {"(1+2)*3", "9"}, {"7-2-1", "4"}, {"7/2", "3"},
            {"-7/2", "-3"}, {"-7%4", "-3"}, {"7%-4", "3"}, {"7/0", "0"}, {"7%0", "0"}, {"12/4/3", "1"},
            {"12/4*3", "9"}, {"3<4", "1"}, {"4<4", "0"}, {"4=4", "1"}, {"4>4", "0"}, {"5>4", "1"}, {"4|0", "1"},
            {"0|0", "0"}, {"4&2", "1"}, {"4&0", "0"}, {"1|0&0", "1"}, {"0&0|1", "1"}, {"!4", "0"}, {"!0", "1"},
            {"!!4", "1"}, {"--4", "4"}, {"-(4)", "-4"}, {"-2*3", "-6"}, {"!0+1", "2"}, {"1+1<1*3", "1"},
            {"(1<2)=1", "1"}, {"0?5;6", "6"}, {"1?5;6", "5"}, {"-1?5;6", "5"}, {"0?5", "0"},
            {"0?5;0?6", "0"}, {"0?5;1?6;7", "6"}, {"8;9", "8"}, {"0;9", "0"}, {"1?0;9", "0"},
            {"w", "20"}, {"s", "3"}, {"m", "2"}, {"l", "4"}, {"n", "17"}, {"d", "1"}, {"a", "6"}, {"b", "5"},
            {"9999*9999*9999", "" + 9999 * 9999 * 9999},
            {"9999*9999*99/9999", "" + 9999 * 9999 * 99 / 9999},
        };
        for (String[] w : worths) {
            due.is(w[0], Worth.of(w[0]), Integer.parseInt(w[1]));
        }
        PushedIn y = Worth.yard();
        Due.text(y, "d;1");
        due.is("d: the line is that door", y.next(0, 1, 30), 1);
        due.is("d: the line is another door", y.next(0, 2, 30), 0);
    }

    private static void textStays() {
        PushedIn x = Worth.yard();
        due.is("0 without a text", x.next(0, 0, 30), 0);
        due.is("a text", Due.text(x, "s"), 1);
        due.is("by the text", x.next(0, 0, 30), 1);
        due.is("a faulty text", Due.text(x, "-s+"), -103);
        due.is("by the text told before", x.next(0, 0, 30), 1);
        due.is("another text", Due.text(x, "-s"), 1);
        due.is("by the text told last", x.next(0, 0, 30), 0);
        due.is("a text of 60", Due.text(x, "s" + "+1".repeat(29) + "+"), -160);
        due.is("a text of 59", Due.text(x, "s" + "+1".repeat(29)), 1);
        due.is("by the long text", x.next(0, 0, 30), 1);
        due.is("a text of 60 that is one", Due.text(x, "-s" + "+1".repeat(29)), 1);
        due.is("by the longest text", x.next(0, 0, 30), 0);
        due.is("a long text of lines", Due.text(x, "0?1;".repeat(14) + "s=4"), 1);
        due.is("by its last line", x.next(0, 0, 30), 1);
        due.is("open ones behind one another", Due.text(x, "((((((s))))))-!!!!!!1*------1+(s)"), 1);
    }

    private static void nextByKinds() {
        // All can be next at 30: in 10, 8, 12, 12; sorts 1, 2, 3, 3; matters 0, 1, 2, 2.
        PushedIn x = Due.yard("10-60@0m0s1", "8-60@1m1s2", "12-60@2m2s3#40", "12-60@3m2s3#2");
        for (int m = 0; m < 3; m++) {
            x.matter(m, 0, 9 - m);
        }
        int[] kinds = {0, 1, 2, 3, 3, 4, 5, 6, 6, 6};
        int[] abs = {0, 0, 0, 100, 700, 0, 0, 120, 121, 123};
        int[] wanted = {1, 1, 3, 0, 1, 2, 2, 1, 1, 0};
        for (int r = 0; r < kinds.length; r++) {
            x.rule(kinds[r], abs[r], 0);
            due.is("next by kind " + kinds[r] + " with " + abs[r], x.next(r, 0, 30), wanted[r]);
        }
        Due.comer(x, "1-60@0m5s0#99");
        x.start(4, 30);
        due.is("number 99 scores 0, like none; least in", x.next(2, 0, 31), 3);
        x.start(2, 20);
        x.start(3, 20);
        due.is("without numbers but 99", x.next(2, 0, 30), 4);
        Due.comer(x, "30-60@0m5s0#98");
        x.start(5, 30);
        due.is("number 98 scores 1", x.next(2, 0, 30), 5);
    }

    private static void nextAtEdges() {
        PushedIn x = Due.yard("10-40@0m0s1", "10-40@1m0s1", "20-30@2m0s1l0", "20-30@2m0s1");
        x.rule(1, 0, 0);
        due.is("nobody yet", x.next(0, 0, 9), -2);
        due.is("like ones by numbers", x.next(0, 0, 10), 0);
        due.is("still at its early start", x.next(0, 0, 30), 0);
        due.is("behind it", x.next(0, 0, 31), -2);
        x.start(0, 29);
        due.is("by its told start", x.next(0, 0, 30), 1);
        x.start(1, 15);
        due.is("one with neither start is out", x.next(0, 0, 25), 0);
        x.start(3, 50);
        due.is("one without starts but told", x.next(0, 0, 40), 3);
        due.is("another day", x.next(0, 10, 25), -2);
        x.yard(2, 1);
        due.is("of line 0", x.next(0, 0, 20), 0);
        due.is("of line 2", x.next(0, 2, 20), 3);
        due.is("of line 3", x.next(0, 3, 20), -2);
        due.is("rule below", x.next(-1, 0, 0), -1);
        due.is("rule above", x.next(1, 0, 0), -1);
        due.is("dd below", x.next(0, -1, 0), -1);
        due.is("door above", x.next(0, 4, 0), -1);
        due.is("day above", x.next(0, 40, 0), -1);
        due.is("t below", x.next(0, 0, -1), -1);
        due.is("t above", x.next(0, 0, 720), -1);
        due.is("t 719", x.next(0, 33, 719), -2);
        due.is("t 0", x.next(0, 33, 0), -2);
        PushedIn y = Due.yard("20-30@0m0s1");
        y.rule(1, 0, 0);
        y.yard(1, 5);
        due.is("by in, whatever the slack", y.next(0, 0, 19), -2);
    }

    private static void breaksAndKept() {
        // Starts 30, 20, 25 of those that came at 5, 10, 15.
        PushedIn x = Due.yard("5-40@0m0s0", "10-30@1m0s1", "15-35@2m0s2");
        x.rule(1, 0, 0);
        x.rule(5, 0, 0);
        due.is("breaks of first", x.breaks(0, 0, -1), 2);
        due.is("the 0th", x.breaks(0, 0, 0), 1);
        due.is("the 1st", x.breaks(0, 0, 1), 2);
        due.is("no 2nd", x.breaks(0, 0, 2), -1);
        due.is("breaks of last", x.breaks(1, 0, -1), 1);
        due.is("its 0th", x.breaks(1, 0, 0), 1);
        due.is("breaks of an empty day", x.breaks(0, 1, -1), 0);
        due.is("none on an empty day", x.breaks(0, 1, 0), -1);
        due.is("rule below", x.breaks(-1, 0, -1), -1);
        due.is("rule above", x.breaks(2, 0, -1), -1);
        due.is("day below", x.breaks(0, -1, -1), -1);
        due.is("day above", x.breaks(0, 4, -1), -1);
        due.is("i below", x.breaks(0, 0, -2), -1);
        due.is("kept by none", x.kept(0), 0);
        x.yard(0, 2);
        Due.comer(x, "5-40@0m0s0");
        due.is("kept on day 2 alone", x.kept(0), 4);
        x.yard(0, 3);
        Due.comer(x, "5-40@0m0s0");
        Due.comer(x, "5-40@0m0s0");
        x.start(5, 3);
        due.is("one without starts breaks nothing", x.breaks(0, 3, -1), 0);
        due.is("kept on days 2 and 3", x.kept(0), 12);
        x.start(1, 35);
        x.start(2, 36);
        due.is("no breaks by told starts", x.breaks(0, 0, -1), 0);
        due.is("kept by told starts", x.kept(0), 13);
        x.start(1, 3);
        due.is("served ahead of its coming", x.breaks(0, 0, 0), 1);
        due.is("kept rule below", x.kept(-1), -1);
        due.is("kept rule above", x.kept(2), -1);
        PushedIn y = Due.yard("5-40@0m0s0", "10-30@1m0s0l0");
        y.rule(1, 0, 0);
        y.yard(2, 1);
        due.is("one of another line breaks", y.breaks(0, 0, 0), 1);
        due.is("and it alone", y.breaks(0, 0, -1), 1);
    }

    private static void find() {
        PushedIn x = Due.yard("5-40@0m0s0", "10-30@1m0s1", "15-35@2m0s2");
        due.is("find below", x.find(-1), -1);
        due.is("find above", x.find(2), -1);
        due.is("find without rules", x.find(0), -5);
        due.is("find's sum without rules", x.find(1), -5);
        x.rule(1, 0, 3);
        due.is("find the only one", x.find(0), 0);
        due.is("find its sum", x.find(1), 23);
        x.rule(5, 0, 13);
        due.is("find the first of like ones", x.find(0), 0);
        x.rule(5, 0, 12);
        due.is("find the least", x.find(0), 2);
        due.is("find the least sum", x.find(1), 22);
        x.yard(0, 1);
        Due.comer(x, "5-40@0m0s0");
        Due.comer(x, "4-30@1m0s0");
        x.start(4, 22);
        due.is("one more break of last on another day", x.find(1), 23);
        due.is("so it is first", x.find(0), 0);
        x.start(4, 31);
        due.is("one more break of first on another day", x.find(1), 22);
        due.is("so it is last", x.find(0), 2);
    }

    private static void led() {
        PushedIn x = Due.yard("5-40@0m0s0", "10-30@1m0s1", "15-35@2m0s2", "16-35@2m0s2");
        due.is("led without rules", x.led(0), 0);
        x.rule(1, 0, 0);
        x.rule(5, 0, 0);
        x.rule(3, 100, 0);
        due.is("led first", x.led(0), 7);
        due.is("led by sort", x.led(1), 4);
        due.is("led by last", x.led(2), 2);
        due.is("led with neither start", x.led(3), 0);
        x.start(3, 29);
        due.is("led by a told start", x.led(3), 2);
        due.is("led below", x.led(-1), -1);
        due.is("led above", x.led(4), -1);
        for (int i = 3; i < 20; i++) {
            x.rule(1, 0, 0);
        }
        due.is("led by twenty", x.led(0), (1 << 20) - 1);
        x.yard(2, 1);
        due.is("led by lines", x.led(2), (1 << 20) - 1 - 2);
    }
}
