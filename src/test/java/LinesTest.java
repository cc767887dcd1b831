/** Promises 24 to 30: lines, clerks, luck. */
public final class LinesTest {
    private static final Due due = new Due();

    public static void main(String[] args) {
        changed();
        idle();
        idleByLinesAndSlack();
        seldom();
        along();
        stand();
        undoAndRedo();
        fortyChanges();
        due.end();
    }

    private static void changed() {
        PushedIn x = Due.yard("5-40@0m0s0l1", "10-30@1m0s1", "15-35@2m0s2l3");
        due.is("changed in one line", x.changed(0, -1), -5);
        due.is("changed in one line, the 0th", x.changed(0, 0), -5);
        due.is("none such, ahead of state", x.changed(0, 2), -1);
        due.is("day, ahead of state", x.changed(4, -1), -1);
        x.yard(2, 1);
        due.is("changed", x.changed(0, -1), 2);
        due.is("changed 0th", x.changed(0, 0), 0);
        due.is("changed 1st", x.changed(0, 1), 2);
        due.is("changed none such", x.changed(0, 2), -1);
        due.is("changed on another day", x.changed(1, -1), 0);
        due.is("changed day below", x.changed(-1, -1), -1);
        due.is("changed day above", x.changed(4, -1), -1);
        due.is("changed i below", x.changed(0, -2), -1);
    }

    private static void idle() {
        // At door 0 out at 20 and 50: the next one's late start is 49, its early one 40.
        PushedIn x = Due.yard("1-20@0m0s0", "30-50@0m0s0");
        due.is("from 30 to 39 the next one itself waited", x.idle(0, 0), 10);
        due.is("the first of these", x.idle(0, 1), 30);
        x.away(0, 30031);
        due.is("less two told away", x.idle(0, 0), 8);
        due.is("the first behind", x.idle(0, 1), 32);
        x.away(1, 32039);
        due.is("away at another door", x.idle(0, 0), 8);
        Due.comer(x, "10-60@1m1s0");
        due.is("another waited from 20 to 48", x.idle(0, 0), 27);
        due.is("from 20 on", x.idle(0, 1), 20);
        due.is("no minutes at a door of one", x.idle(1, 0), 0);
        due.is("no first", x.idle(1, 1), -2);
        due.is("idle on another day", x.idle(10, 0), 0);
        due.is("idle dd below", x.idle(-1, 0), -1);
        due.is("idle door above", x.idle(4, 0), -1);
        due.is("idle day above", x.idle(40, 0), -1);
        due.is("idle what below", x.idle(0, -1), -1);
        due.is("idle what above", x.idle(0, 2), -1);
        x.away(0, 49049);
        due.is("no late start, no minutes", x.idle(0, 0), 0);
        due.is("no late start, no first", x.idle(0, 1), -2);
        // Told in another order than served: the first minute is the earliest all the same.
        PushedIn y = Due.yard("80-99@0m0s0", "1-20@0m0s0", "30-50@0m0s0");
        due.is("over two gaps", y.idle(0, 0), 10 + 9);
        due.is("the earliest", y.idle(0, 1), 30);
        y.start(2, 41);
        due.is("told starts do not matter", y.idle(0, 0), 10 + 9);
    }

    private static void idleByLinesAndSlack() {
        PushedIn x = Due.yard("1-20@0m0s0", "30-50@0m0s0l1", "10-60@1m0s0l0");
        x.yard(2, 1);
        due.is("of that line alone", x.idle(0, 1), 20);
        due.is("till ahead of 49", x.idle(0, 0), 29);
        x.came(2, 45);
        due.is("from 45 on", x.idle(0, 0), 4);
        x.yard(1, 3);
        due.is("from 48 on, with slack", x.idle(0, 0), 1);
        x.yard(1, 4);
        due.is("not at 49", x.idle(0, 0), 0);
    }

    private static void seldom() {
        PushedIn x = Due.yard("0-20@0m0s1", "0-30@1m0s2");
        // Waits 10 and 20. Two are drawn: at an even z >>> 8 they change, at an odd one they stay.
        int z = 7;
        int one = 0;
        int two = 0;
        boolean asNow = true;
        for (int i = 0; i < 200; i++) {
            z = z * 1103515245 + 12345;
            asNow = (z >>> 8) % 2 == 0 ? !asNow : asNow;
            one += 1;
            two += asNow ? 1 : 0;
        }
        due.is("the shortest wait is always reached", x.seldom(1, 7, 200), one);
        due.is("the longest is not", x.seldom(2, 7, 200), two);
        due.is("the same again", x.seldom(2, 7, 200), two);
        due.is("sorts stay", x.of(0, 5), 1);
        due.is("a sort that nobody is of", x.seldom(5, 7, 3), 3);
        due.is("an empty day", x.seldom(11, 7, 3), 3);
        due.is("ds below", x.seldom(-1, 7, 1), -1);
        due.is("sort above", x.seldom(8, 7, 1), -1);
        due.is("sort 9", x.seldom(19, 7, 1), -1);
        due.is("day above", x.seldom(40, 7, 1), -1);
        due.is("n 0", x.seldom(1, 7, 0), -1);
        due.is("n 201", x.seldom(1, 7, 201), -1);
        due.is("any seed", x.seldom(5, Integer.MIN_VALUE, 200), 200);
        x.start(1, 0);
        due.is("by told starts the other one is the longest", x.seldom(1, 7, 200), two);
        // One with neither start is drawn about, but waits not at all.
        PushedIn y = Due.yard("0-20@0m0s1", "0-20@0m0s2");
        due.is("it has no starts", y.of(1, 9), -2);
        due.is("0 or longer", y.seldom(2, 7, 200), 200);
        due.is("10 as long as now", y.seldom(1, 7, 200), two);
    }

    private static void along() {
        PushedIn x = Due.yard("1-20@0m0s1", "1-25@0m0s2", "1-30@0m0s1", "1-20@1m0s1", "1-20@1m0s2", "1-20@0m0s2");
        due.is("within 0", x.along(12, 0, 0), 2);
        due.is("within 4", x.along(12, 0, 4), 2);
        due.is("within 5", x.along(12, 0, 5), 4);
        due.is("the other way about", x.along(21, 0, 5), 4);
        due.is("within 10", x.along(12, 0, 10), 5);
        due.is("of one sort told twice", x.along(11, 0, 10), 1);
        due.is("of the other sort told twice", x.along(22, 0, 5), 1);
        due.is("nobody", x.along(77, 0, 99), 0);
        due.is("another day", x.along(12, 1, 99), 0);
        due.is("st below", x.along(-1, 0, 0), -1);
        due.is("one above", x.along(80, 0, 0), -1);
        due.is("other above", x.along(8, 0, 0), -1);
        due.is("day below", x.along(12, -1, 0), -1);
        due.is("day above", x.along(12, 4, 0), -1);
        due.is("x below", x.along(12, 0, -1), -1);
        due.is("x above", x.along(12, 0, 100), -1);
        due.is("x 99", x.along(12, 0, 99), 5);
    }

    private static void stand() {
        PushedIn x = Due.yard("15-20@1m0s1", "15-20@3m0s1");
        due.is("like ones: the least", x.stand(0, 0), 1);
        due.is("known", x.stand(0, 1), 4);
        Due.comer(x, "29-31@3m0s1");
        due.is("the greatest sum", x.stand(0, 0), 3);
        due.is("known of two", x.stand(0, 1), 5);
        Due.comer(x, "30-31@3m0s1");
        due.is("one without starts adds nothing", x.stand(0, 1), 5);
        due.is("an empty day", x.stand(1, 0), 0);
        due.is("known of an empty day", x.stand(1, 1), 0);
        due.is("stand day below", x.stand(-1, 0), -1);
        due.is("stand day above", x.stand(4, 0), -1);
        due.is("stand what below", x.stand(0, -1), -1);
        due.is("stand what above", x.stand(0, 2), -1);
    }

    private static void undoAndRedo() {
        PushedIn x = Due.yard("5-40@0m0s0");
        x.matter(0, 1, 30);
        x.matter(0, 0, 20);
        x.yard(1, 3);
        x.came(0, 6);
        due.is("four changes", x.count(4), 4);
        due.is("redo none", x.redo(), -5);
        due.is("undo came", x.undo(), 3);
        due.is("in", x.of(0, 1), 5);
        due.is("undo slack", x.undo(), 2);
        due.is("undo least", x.undo(), 1);
        due.is("late by least 1", x.of(0, 10), 39);
        due.is("early by most 30", x.of(0, 9), 10);
        due.is("undo most", x.undo(), 0);
        due.is("early by most 10", x.of(0, 9), 30);
        due.is("undo none", x.undo(), -5);
        due.is("redo most", x.redo(), 3);
        due.is("redo least", x.redo(), 2);
        due.is("late by least 20", x.of(0, 10), 20);
        due.is("telling the same is none", x.matter(0, 0, 20), 20);
        due.is("so redo slack", x.redo(), 1);
        due.is("what is bad is none", x.came(0, 40), -1);
        x.yard(0, 1);
        x.yard(2, 1);
        x.start(0, 7);
        x.away(2, 0);
        Due.comer(x, "5-40@0m0s0");
        due.is("day, lines, starts, absences, comers are none", x.count(4), 3);
        due.is("redo came", x.redo(), 0);
        due.is("in again", x.of(0, 1), 6);
        due.is("slack again", x.yard(1, 3), 3);
        due.is("redo no more", x.redo(), -5);
        x.undo();
        x.undo();
        due.is("another change", x.came(0, 9), 5);
        due.is("nothing to do again behind it", x.redo(), -5);
        due.is("three may be undone", x.count(4), 3);
    }

    private static void fortyChanges() {
        PushedIn x = Due.yard("5-400@0m0s0");
        for (int i = 0; i < 45; i++) {
            x.came(0, 100 + i);
        }
        due.is("forty are kept", x.count(4), 40);
        for (int i = 39; i >= 0; i--) {
            due.is("undo of forty", x.undo(), i);
            due.is("in of forty", x.of(0, 1), 104 + i);
        }
        due.is("no more of forty", x.undo(), -5);
        for (int i = 39; i >= 0; i--) {
            due.is("redo of forty", x.redo(), i);
            due.is("in of forty again", x.of(0, 1), 144 - i);
        }
        due.is("one more", x.yard(1, 9), 0);
        due.is("forty still", x.count(4), 40);
        due.is("undo the one more", x.undo(), 39);
        due.is("slack", x.yard(1, 0), 0);
        due.is("and the one ahead of it", x.undo(), 38);
        due.is("is the latest of the forty", x.of(0, 1), 143);
        PushedIn y = Due.yard("5-400@0m0s0", "5-400@0m0s0");
        for (int i = 0; i < 12; i++) {
            y.came(i % 2, 100 + i);
            y.matter(i % 6, 1, 20 + i);
            y.matter(i % 6, 0, 2 + i);
            y.yard(1, 1 + i);
        }
        due.is("forty of all sorts", y.count(4), 40);
        for (int i = 11; i >= 2; i--) {
            due.is("slack of " + i, y.yard(1, 1 + i), 1 + i);
            due.is("least of " + i, y.matter(i % 6, 0, 2 + i), 2 + i);
            due.is("most of " + i, y.matter(i % 6, 1, 20 + i), 20 + i);
            due.is("in of " + i, y.of(i % 2, 1), 100 + i);
            for (int k = 0; k < 4; k++) {
                due.is("undo of all sorts", y.undo(), 4 * (i - 2) + 3 - k);
            }
        }
        due.is("slack kept", y.yard(1, 2), 2);
        due.is("least kept", y.matter(1, 0, 3), 3);
        due.is("least undone", y.matter(5, 0, 1), 1);
        due.is("most kept", y.matter(1, 1, 21), 21);
        due.is("in kept", y.of(1, 1), 101);
    }
}
