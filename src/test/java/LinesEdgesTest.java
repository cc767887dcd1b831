import java.util.function.Supplier;

/** Part 4 of the terms (but for LED) and promises 24 to 30: each sentence at its edges. */
public final class LinesEdgesTest {
    private static final Edges edge = new Edges();
    private static final long HERE = Edges.HERE;
    private static final Supplier<PushedIn> TWO_CHANGED = LinesEdgesTest::twoChanged;

    public static void main(String[] args) {
        changedLines();
        idleMinutes();
        whoWaited();
        whoWaitedBySlackAndLine();
        clerkToldAway();
        drawnAbout();
        waitsInAll();
        outAlong();
        whereToStand();
        whatIsAChange();
        undoneAndDoneAgain();
        fortyAreKept();
        changed();
        idle();
        seldom();
        along();
        stand();
        undo();
        redo();
        edge.end();
    }

    /** Comers 0 and 2 of four changed lines on day 0; lines are one a door. */
    private static PushedIn twoChanged() {
        PushedIn x = Due.yard("5-40@0m0s0l1", "10-30@1m0s1", "15-35@2m0s2l3", "16-36@3m0s2l3");
        x.yard(2, 1);
        return x;
    }

    /** At door 0 one is out at 20, the next one starts at 40 to 49 and waits for nothing. */
    private static PushedIn gap(String waiter) {
        return Due.yard("1-20@0m0s0", "40-50@0m0s0", waiter);
    }

    private static void idleIs(String what, PushedIn x, int minutes, int first) {
        edge.is(what + ", how many", x.idle(0, 0), minutes);
        edge.is(what + ", the first", x.idle(0, 1), first);
    }

    // ---- terms

    private static void changedLines() {
        edge.says(0, "======== 4 CHANGED lines: COMERS of a DAY whose LINE is not their DOOR: how many, the i-th. (Of "
                + "lines one a door.)");
        PushedIn x = TWO_CHANGED.get();
        edge.is("how many", x.changed(0, -1), 2);
        edge.is("the first", x.changed(0, 0), 0);
        edge.is("the last", x.changed(0, 1), 2);
        edge.is("none such", x.changed(0, 2), -1);
        edge.is("of an empty day", x.changed(3, -1), 0);
        edge.is("none of an empty day", x.changed(3, 0), -1);
        x.yard(0, 3);
        Due.comer(x, "5-40@0m0s0l0");
        edge.is("its line told, but its door", x.changed(3, -1), 0);
        Due.comer(x, "5-41@0m0s0l3");
        edge.is("of day 3", x.changed(3, 0), 5);
        edge.is("still of day 0", x.changed(0, -1), 2);
        x.yard(2, 0);
        edge.is("lines are one for all", x.changed(0, -1), -5);
        x.yard(2, 1);
        edge.is("lines are one a door", x.changed(0, -1), 2);
    }

    private static void idleMinutes() {
        edge.says(0, "IDLE of a DOOR on a DAY: MINUTES from OUT of one on, ahead of the LATE START of the next one "
                + "there,");
        idleIs("one waits from 19 on: from 20, ahead of 49", gap("19-60@1m0s0"), 29, 20);
        idleIs("one waits from 20 on", gap("20-60@1m0s0"), 29, 20);
        idleIs("one waits from 21 on", gap("21-60@1m0s0"), 28, 21);
        idleIs("one waits from 48 on", gap("48-60@1m0s0"), 1, 48);
        idleIs("one waits from 49 on", gap("49-60@1m0s0"), 0, -2);
        idleIs("no minute between", Due.yard("1-20@0m0s0", "10-21@0m0s0", "1-60@1m0s0"), 0, -2);
        idleIs("one minute between", Due.yard("1-20@0m0s0", "10-22@0m0s0", "1-60@1m0s0"), 1, 20);
        idleIs("nobody was served there ahead", Due.yard("40-50@0m0s0", "1-60@1m0s0"), 0, -2);
        PushedIn x = gap("1-60@1m0s0");
        x.away(0, 49049);
        idleIs("the next one has no late start", x, 0, -2);
        PushedIn y = Due.yard("80-90@0m0s0", "1-20@0m0s0", "40-50@0m0s0", "1-200@1m0s0");
        idleIs("from 20 ahead of 49, from 50 ahead of 89", y, 29 + 39, 20);
        edge.is("at another door", y.idle(1, 0), 0);
        edge.is("on another day", y.idle(10, 0), 0);
    }

    private static void whoWaited() {
        edge.says(0, "at which some COMER that could have been served (IN and SLACK at that MINUTE or less, EARLY START "
                + "above it;");
        idleIs("its early start is at 20", gap("10-30@1m0s0"), 0, -2);
        idleIs("its early start is at 21", gap("10-31@1m0s0"), 1, 20);
        idleIs("its early start is at 49", gap("10-59@1m0s0"), 29, 20);
        PushedIn x = gap("20-60@1m0s0");
        x.start(2, 20);
        idleIs("whatever was told", x, 29, 20);
        x.away(1, 59059);
        idleIs("it has no starts", x, 0, -2);
        PushedIn y = Due.yard("1-20@0m0s0", "40-50@0m0s0");
        y.yard(0, 1);
        Due.comer(y, "1-60@1m0s0");
        idleIs("one of another day", y, 0, -2);
        idleIs("the first comer of all", Due.yard("20-60@1m0s0", "1-20@0m0s0", "40-50@0m0s0"), 29, 20);
        idleIs("the next one itself", Due.yard("1-20@0m0s0", "39-50@0m0s0"), 1, 39);
        idleIs("two that wait: each minute once", Due.yard("1-20@0m0s0", "39-50@0m0s0", "30-60@1m0s0"), 19, 30);
    }

    private static void whoWaitedBySlackAndLine() {
        edge.says(0, "of that LINE, if lines are one a door) waited,");
        PushedIn x = gap("20-60@1m0s0l0");
        x.yard(2, 1);
        idleIs("of line 0", x, 29, 20);
        PushedIn y = gap("20-60@0m0s0l1");
        y.yard(2, 1);
        idleIs("of line 1, at door 0", y, 0, -2);
        y.yard(2, 0);
        idleIs("lines are one for all", y, 29, 20);
        PushedIn z = gap("20-60@1m0s0");
        int[] slacks = {0, 1, 28, 29};
        int[] firsts = {20, 21, 48, -2};
        for (int i = 0; i < slacks.length; i++) {
            z.yard(1, slacks[i]);
            edge.is("in 20 and slack " + slacks[i], z.idle(0, 1), firsts[i]);
        }
    }

    private static void clerkToldAway() {
        edge.says(0, "and the clerk was not told AWAY: how many, the first.");
        int[] absences = {19019, 20020, 30031, 48048, 20048, 19719};
        int[] minutes = {29, 28, 27, 28, 0, 0};
        int[] firsts = {20, 21, 20, 20, -2, -2};
        for (int i = 0; i < absences.length; i++) {
            PushedIn x = gap("20-60@1m0s0");
            x.away(0, absences[i]);
            idleIs("away " + absences[i], x, minutes[i], firsts[i]);
        }
        PushedIn y = gap("20-60@1m0s0");
        y.away(1, 20048);
        idleIs("another clerk away", y, 29, 20);
    }

    private static void drawnAbout() {
        edge.says(0, "SELDOM: of n times (1 .. 200) that SORTS of a DAY's COMERS are drawn about by a SEED (each time "
                + "from what they were drawn to ahead; from the last COMER down to the second: j = (z >>> 8) % (its place "
                + "and 1), with z = z * 1103515245 + 12345 ahead of each: both change their SORTS):");
        // Waits of 10, 20, 30 of the sorts 1, 2, 3.
        PushedIn x = Due.yard("0-20@0m0s1", "0-30@1m0s2", "0-40@2m0s3");
        int[] seeds = {0, 7, -1, Integer.MAX_VALUE, Integer.MIN_VALUE};
        int[] times = {1, 2, 200};
        int[][] second = {{0, 1, 137}, {1, 2, 126}, {1, 1, 144}, {0, 0, 138}, {0, 1, 122}};
        int[][] third = {{0, 0, 70}, {0, 1, 70}, {0, 1, 68}, {1, 2, 54}, {1, 1, 67}};
        for (int s = 0; s < seeds.length; s++) {
            for (int n = 0; n < times.length; n++) {
                String what = times[n] + " times from " + seeds[s];
                edge.is("the shortest, " + what, x.seldom(1, seeds[s], times[n]), times[n]);
                edge.is("the second, " + what, x.seldom(2, seeds[s], times[n]), second[s][n]);
                edge.is("the longest, " + what, x.seldom(3, seeds[s], times[n]), third[s][n]);
            }
        }
        for (int c = 0; c < 3; c++) {
            edge.is("its sort stays", x.of(c, 5), c + 1);
        }
        edge.is("nobody to be drawn about", x.seldom(30, 7, 200), 200);
        edge.is("one alone", Due.yard("0-20@0m0s1").seldom(1, 7, 200), 200);
        edge.is("a sort of nobody", x.seldom(7, 7, 200), 200);
        PushedIn forty = new PushedIn();
        for (int i = 0; i < 40; i++) {
            Due.comer(forty, "0-719@0m0s" + i % 8);
            forty.start(i, 2 * i);
        }
        edge.is("forty drawn about", forty.seldom(7, 5, 200), 45);
    }

    private static void waitsInAll() {
        edge.says(0, "how often COMERS of a SORT wait in all (told START, EARLY else, less IN; those with neither don't "
                + "count, but their SORTS are drawn about, too) as long as now or longer.");
        PushedIn x = Due.yard("0-20@0m0s1", "0-30@1m0s2");
        edge.is("early: the longer wait", x.seldom(2, 7, 3), 2);
        x.start(0, 20);
        edge.is("as long as now always", x.seldom(2, 7, 200), 200);
        x.start(0, 21);
        edge.is("told: now it is the shorter", x.seldom(2, 7, 200), 200);
        edge.is("told: the other one is the longer", x.seldom(1, 7, 200), 96);
        PushedIn y = Due.yard("10-700@0m0s1", "10-700@1m0s2", "10-700@2m0s1");
        y.start(0, 0);
        y.start(1, 10);
        y.start(2, 15);
        edge.is("-10 and 5 of sort 1", y.seldom(1, 7, 200), 140);
        edge.is("0 of sort 2", y.seldom(2, 7, 200), 126);
        PushedIn ins = Due.yard("0-20@0m0s1", "19-30@1m0s2");
        edge.is("10 is longer than 1, though it starts earlier", ins.seldom(1, 7, 200), 96);
        PushedIn z = Due.yard("0-20@0m0s1", "0-20@0m0s2");
        edge.is("it has neither", z.of(1, 9), -2);
        edge.is("0 of one with neither, or longer", z.seldom(2, 7, 200), 200);
        edge.is("its sort is drawn about, too", z.seldom(1, 7, 200), 96);
        z.start(0, 0);
        edge.is("0 of one with neither is as long as a wait of 0", z.seldom(2, 7, 200), 200);
    }

    private static void outAlong() {
        edge.says(0, "ALONG: two SORTS: how often on a DAY COMERS of the one and the other one (two COMERS) come OUT "
                + "within x minutes of one another at one DOOR (each two once, also of one SORT told twice).");
        PushedIn x = Due.yard("1-120@0m0s1", "1-21@0m0s2");
        edge.is("99 apart, within 98", x.along(12, 0, 98), 0);
        edge.is("99 apart, within 99", x.along(12, 0, 99), 1);
        edge.is("the other one first", x.along(21, 0, 99), 1);
        edge.is("one sort of two", x.along(11, 0, 99), 0);
        Due.comer(x, "1-21@1m0s1");
        edge.is("out at once at two doors", x.along(12, 0, 0), 0);
        Due.comer(x, "1-21@1m0s2");
        edge.is("out at once at one door, within 0", x.along(12, 0, 0), 1);
        edge.is("the other way about", x.along(21, 0, 0), 1);
        x.yard(0, 3);
        Due.comer(x, "1-21@1m0s2");
        edge.is("of another day", x.along(12, 0, 0), 1);
        edge.is("alone on its day", x.along(22, 3, 99), 0);
        PushedIn y = Due.yard("1-20@0m0s7", "1-20@0m0s7", "1-21@0m0s7", "1-21@0m0s0");
        edge.is("of three each two once, within 0", y.along(77, 0, 0), 1);
        edge.is("of three each two once, within 1", y.along(77, 0, 1), 3);
        edge.is("three with the fourth, within 0", y.along(70, 0, 0), 1);
        edge.is("three with the fourth, within 1", y.along(7, 0, 1), 3);
    }

    private static void whereToStand() {
        edge.says(0, "STAND: the DOOR of a DAY with the greatest sum of LATE less EARLY of its COMERS (of like ones the "
                + "least); KNOWN: that sum.");
        PushedIn x = new PushedIn();
        edge.is("nobody: the least door", x.stand(0, 0), 0);
        edge.is("nobody: 0", x.stand(0, 1), 0);
        Due.comer(x, "19-20@3m0s0");
        edge.is("a sum of 0 at door 3: of like ones the least", x.stand(0, 0), 0);
        Due.comer(x, "28-30@3m0s0");
        edge.is("a sum of 1 at door 3", x.stand(0, 0), 3);
        edge.is("that sum", x.stand(0, 1), 1);
        Due.comer(x, "28-30@2m0s0");
        edge.is("like ones at 2 and 3", x.stand(0, 0), 2);
        Due.comer(x, "38-40@3m0s0");
        edge.is("1 and 1 at door 3", x.stand(0, 0), 3);
        edge.is("of its comers in all", x.stand(0, 1), 2);
        Due.comer(x, "39-40@3m0s0");
        edge.is("one without starts", x.stand(0, 1), 2);
        Due.comer(x, "27-30@1m0s0");
        edge.is("like ones at 1 and 3", x.stand(0, 0), 1);
        Due.comer(x, "26-30@0m0s0");
        edge.is("3 at door 0", x.stand(0, 0), 0);
        edge.is("that sum of door 0", x.stand(0, 1), 3);
        edge.is("of another day", x.stand(3, 1), 0);
    }

    private static void whatIsAChange() {
        edge.says(0, "CHANGES (IN, LEAST, MOST, SLACK; telling the same number is none)");
        PushedIn x = Due.yard("5-40@0m0s0");
        x.came(0, 6);
        edge.is("in", x.count(4), 1);
        x.matter(0, 0, 2);
        edge.is("least", x.count(4), 2);
        x.matter(0, 1, 11);
        edge.is("most", x.count(4), 3);
        x.yard(1, 1);
        edge.is("slack", x.count(4), 4);
        x.undo();
        x.came(0, 6);
        x.matter(0, 0, 2);
        x.matter(0, 1, 11);
        x.yard(1, 0);
        edge.is("the same numbers", x.count(4), 3);
        x.yard(0, 3);
        x.yard(2, 1);
        x.start(0, 30);
        x.away(0, 0);
        x.rule(0, 0, 0);
        Due.comer(x, "5-40@0m0s0");
        Due.text(x, "w");
        x.act(0, 3, 1);
        x.row(0, 0, 3);
        edge.is("nothing else is one", x.count(4), 3);
        edge.is("and none of it came behind: slack again", x.redo(), 0);
        edge.is("slack is 1", x.yard(1, 1), 1);
        edge.is("in of a comer that came since", x.came(1, 6), 5);
        edge.is("is one, too", x.count(4), 5);
    }

    private static void undoneAndDoneAgain() {
        edge.says(0, "can be UNDONE, the latest first, and DONE AGAIN (as long as no other came behind);");
        PushedIn x = Due.yard("5-40@0m0s0");
        x.matter(0, 1, 30);
        x.matter(0, 0, 30);
        x.yard(1, 30);
        x.came(0, 39);
        x.came(0, 8);
        int[] ins = {39, 5, 5, 5, 5};
        int[] earlies = {9 + 1, 10, 10, 10, 30};
        int[] lates = {10, 10, 10, 39, 39};
        for (int i = 0; i < 5; i++) {
            edge.is("undone", x.undo(), 4 - i);
            edge.is("in", x.of(0, 1), ins[i]);
            edge.is("early", x.of(0, 9), earlies[i]);
            edge.is("late", x.of(0, 10), lates[i]);
        }
        edge.is("no more", x.undo(), -5);
        edge.is("most again", x.redo(), 4);
        edge.is("early again", x.of(0, 9), 10);
        edge.is("least again", x.redo(), 3);
        edge.is("late again", x.of(0, 10), 10);
        edge.is("slack again", x.redo(), 2);
        edge.is("in again", x.redo(), 1);
        edge.is("in is 39", x.of(0, 1), 39);
        edge.is("what is refused is no other", x.came(0, 40), -1);
        edge.is("the same is no other", x.came(0, 39), 39);
        edge.is("in again the second time", x.redo(), 0);
        edge.is("in is 8", x.of(0, 1), 8);
        edge.is("no more again", x.redo(), -5);
        x.undo();
        x.undo();
        edge.is("another came behind", x.yard(1, 29), 30);
        edge.is("so none is done again", x.redo(), -5);
        edge.is("the other is undone", x.undo(), 3);
        edge.is("the other is done again", x.redo(), 0);
        edge.is("slack is 29", x.yard(1, 29), 29);
    }

    private static void fortyAreKept() {
        edge.says(0, "40 at most are kept.");
        PushedIn x = Due.yard("5-400@0m0s0");
        for (int i = 1; i <= 41; i++) {
            edge.is("change " + i, x.came(0, 100 + i), i == 1 ? 5 : 99 + i);
            edge.is("kept", x.count(4), Math.min(i, 40));
        }
        for (int i = 39; i >= 0; i--) {
            edge.is("undone", x.undo(), i);
        }
        edge.is("no more", x.undo(), -5);
        edge.is("the first change is kept no more: it stays", x.of(0, 1), 101);
        for (int i = 39; i >= 0; i--) {
            edge.is("done again", x.redo(), i);
        }
        edge.is("no more again", x.redo(), -5);
        edge.is("the last change", x.of(0, 1), 141);
        edge.is("a change of another number", x.matter(3, 0, 7), 1);
        edge.is("forty still", x.count(4), 40);
        edge.is("it is the latest", x.undo(), 39);
        edge.is("and can be done again", x.redo(), 0);
        edge.is("the number", x.matter(3, 0, 7), 7);
        fortyOfAllSorts();
    }

    /** Of 45 changes the first five are kept no more; each of the others goes back and comes again as it was. */
    private static void fortyOfAllSorts() {
        PushedIn x = Due.yard("5-400@0m0s0", "5-400@0m0s0");
        x.came(0, 50);
        for (int i = 0; i < 11; i++) {
            x.came(i % 2, 100 + i);
            x.matter(i % 6, 1, 20 + i);
            x.matter(i % 6, 0, 2 + i);
            x.yard(1, 1 + i);
        }
        edge.is("forty of forty-five", x.count(4), 40);
        for (int i = 10; i >= 1; i--) {
            standAt(x, i);
            for (int k = 0; k < 4; k++) {
                edge.is("undone of all sorts", x.undo(), 4 * (i - 1) + 3 - k);
            }
        }
        standAt(x, 0);
        for (int i = 1; i <= 10; i++) {
            for (int k = 0; k < 4; k++) {
                edge.is("done again of all sorts", x.redo(), 4 * (10 - i) + 3 - k);
            }
            standAt(x, i);
        }
    }

    /** The numbers that the i-th four changes told, told again: that is no change. */
    private static void standAt(PushedIn x, int i) {
        edge.is("in of " + i, x.of(i % 2, 1), 100 + i);
        edge.is("most of " + i, x.matter(i % 6, 1, 20 + i), 20 + i);
        edge.is("least of " + i, x.matter(i % 6, 0, 2 + i), 2 + i);
        edge.is("slack of " + i, x.yard(1, 1 + i), 1 + i);
    }

    // ---- promises

    private static void changed() {
        edge.says(24, "CHANGED on a DAY: how many (i -1), the i-th. BAD (also none such); STATE: lines are one for "
                + "all.");
        edge.bounds(TWO_CHANGED, 0, 3, "changed", HERE, -1);
        edge.bounds(TWO_CHANGED, -1, 1, "changed", 0, HERE);
        edge.is("how many", TWO_CHANGED.get().changed(0, -1), 2);
        edge.is("the 1st", TWO_CHANGED.get().changed(0, 1), 2);
        edge.refused(-5, Yards.BUSY, "changed", 0, -1);
        edge.refused(-5, Yards.BUSY, "changed", 0, 0);
        edge.refused(-5, Yards.BUSY, "changed", 3, -1);
        edge.refused(-5, Yards.EMPTY, "changed", 0, -1);
        edge.refused(-1, Yards.BUSY, "changed", 0, 1);
        edge.refused(-1, Yards.BUSY, "changed", 0, -2);
        edge.refused(-1, Yards.BUSY, "changed", 4, -1);
        edge.refused(-1, Yards.BUSY, "changed", -1, -1);
        edge.refused(-1, Yards.EMPTY, "changed", 0, 0);
    }

    private static void idle() {
        edge.says(25, "IDLE: how many MINUTES (what 0), the first (1; NOT). BAD.");
        edge.bounds(Yards.BUSY, 0, 1, "idle", 0, HERE);
        for (int dd : new int[] {0, 3, 10, 13, 30, 33}) {
            edge.taken(Yards.BUSY, "idle", dd, 0);
            edge.taken(Yards.BUSY, "idle", dd, 1);
        }
        for (int dd : new int[] {4, 9, 14, 34, 40, 43, -1, -10, -3, Integer.MIN_VALUE, Integer.MAX_VALUE}) {
            edge.refused(-1, Yards.BUSY, "idle", dd, 0);
        }
        edge.is("no minute", new PushedIn().idle(0, 0), 0);
        edge.is("no first", new PushedIn().idle(0, 1), -2);
        PushedIn x = new PushedIn();
        x.yard(0, 3);
        Due.comer(x, "1-2@3m0s0");
        Due.comer(x, "3-719@3m0s0");
        edge.is("minutes 3 to 708 of day 3 at door 3", x.idle(33, 0), 706);
        edge.is("the first of them", x.idle(33, 1), 3);
        x.came(1, 0);
        edge.is("minutes 2 to 708", x.idle(33, 0), 707);
    }

    private static void seldom() {
        edge.says(26, "SELDOM of a SORT on a DAY: how often. BAD.");
        edge.bounds(Yards.BUSY, 1, 200, "seldom", 0, 5, HERE);
        edge.is("how often of an empty day", new PushedIn().seldom(37, 0, 1), 1);
        edge.says(26, "ds: 10 times the DAY and the SORT.");
        for (int ds : new int[] {0, 7, 10, 17, 30, 37}) {
            edge.taken(Yards.BUSY, "seldom", ds, 5, 1);
        }
        for (int ds : new int[] {8, 9, 18, 38, 40, 47, -1, -10, -7, Integer.MIN_VALUE, Integer.MAX_VALUE}) {
            edge.refused(-1, Yards.BUSY, "seldom", ds, 5, 1);
        }
        PushedIn x = new PushedIn();
        x.yard(0, 3);
        Due.comer(x, "0-20@0m0s1");
        Due.comer(x, "0-30@1m0s7");
        edge.is("sort 7 of day 3", x.seldom(37, 7, 200), 96);
        edge.is("sort 1 of day 3", x.seldom(31, 7, 200), 200);
    }

    private static void along() {
        edge.says(27, "ALONG of two SORTS (st: 10 times the one and the other) on a DAY within x (0 .. 99). BAD.");
        edge.bounds(Yards.BUSY, 0, 3, "along", 12, HERE, 5);
        edge.bounds(Yards.BUSY, 0, 99, "along", 12, 0, HERE);
        for (int st : new int[] {0, 7, 70, 77}) {
            edge.taken(Yards.BUSY, "along", st, 0, 0);
        }
        for (int st : new int[] {8, 9, 78, 80, 87, 100, -1, -10, -7, Integer.MIN_VALUE, Integer.MAX_VALUE}) {
            edge.refused(-1, Yards.BUSY, "along", st, 0, 0);
        }
        edge.is("two of sort 0 on day 1", Yards.BUSY.get().along(0, 1, 0), 1);
    }

    private static void stand() {
        edge.says(28, "STAND of a DAY: the DOOR (what 0), KNOWN (1). BAD.");
        edge.bounds(Yards.BUSY, 0, 3, "stand", HERE, 0);
        edge.bounds(Yards.BUSY, 0, 1, "stand", 0, HERE);
        PushedIn x = new PushedIn();
        x.yard(0, 3);
        Due.comer(x, "0-50@3m0s0");
        edge.is("door 3 of day 3", x.stand(3, 0), 3);
        edge.is("known of day 3", x.stand(3, 1), 9);
    }

    private static void undo() {
        edge.says(29, "UNDONE: how many may still be. STATE: none.");
        edge.refused(-5, Yards.EMPTY, "undo");
        PushedIn x = Yards.BUSY.get();
        for (int i = 2; i >= 0; i--) {
            edge.is("undone", x.undo(), i);
        }
        edge.is("none", x.undo(), -5);
        edge.is("none again", x.undo(), -5);
        edge.is("forty", Yards.FULL.get().undo(), 39);
        Supplier<PushedIn> allUndone = () -> {
            PushedIn y = Yards.BUSY.get();
            y.undo();
            y.undo();
            y.undo();
            return y;
        };
        edge.refused(-5, allUndone, "undo");
        edge.is("four to be done again", allUndone.get().redo(), 3);
    }

    private static void redo() {
        edge.says(30, "DONE AGAIN: how many may still be. STATE: none.");
        edge.refused(-5, Yards.EMPTY, "redo");
        edge.refused(-5, Yards.FULL, "redo");
        PushedIn x = Yards.BUSY.get();
        edge.is("the one that was undone", x.redo(), 0);
        edge.is("in of 2", x.of(2, 1), 16);
        edge.is("none", x.redo(), -5);
        edge.is("four may be undone", x.count(4), 4);
        PushedIn y = Yards.FULL.get();
        for (int i = 0; i < 40; i++) {
            y.undo();
        }
        edge.is("one of forty", y.redo(), 39);
    }
}
