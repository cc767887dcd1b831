import java.lang.management.ManagementFactory;
import java.util.Set;

/** Any arguments in any state: nothing is thrown, what is refused changes nothing, no call makes objects. */
public final class WildTest {
    private static final Due due = new Due();
    private static final Set<String> CHANGING = Set.of("away", "matter", "yard", "feed", "comer", "came", "start",
            "rule", "undo", "redo", "keep", "row", "put", "shift", "comers");

    public static void main(String[] args) throws ReflectiveOperationException {
        for (int run = 0; run < 300; run++) {
            wildRun(run);
        }
        fullest();
        noObjects();
        due.end();
    }

    /** One object gets every call, the other only those that were not refused. */
    private static void wildRun(int run) throws ReflectiveOperationException {
        Calls calls = new Calls(run);
        PushedIn all = new PushedIn();
        PushedIn some = new PushedIn();
        for (int i = 0; i < 400; i++) {
            if (calls.below(12) == 0) {
                String text = calls.comerText();
                due.is("comer of both", Due.comer(all, text), Due.comer(some, text));
            } else if (calls.below(25) == 0) {
                String text = calls.ruleText();
                due.is("text of both", Due.text(all, text), Due.text(some, text));
            } else {
                String name = calls.anyName();
                long[] given = calls.below(2) == 0 ? calls.wild(name) : calls.sensible(name, all.count(0), all.count(1));
                long got = Calls.answer(all, name, given);
                boolean refused = CHANGING.contains(name) && got < 0 && got > -100;
                if (!refused) {
                    due.is("run " + run + ", " + Calls.shown(name, given), Calls.answer(some, name, given), got);
                }
            }
        }
        for (int i = 0; i < 300; i++) {
            String name = calls.anyName();
            if (!CHANGING.contains(name) && !name.equals("text") && !name.equals("act")) {
                long[] given = calls.sensible(name, all.count(0), all.count(1));
                due.is("run " + run + " asked, " + Calls.shown(name, given),
                        Calls.answer(some, name, given), Calls.answer(all, name, given));
            }
        }
    }

    /** As much of everything as there can be. */
    private static PushedIn full() {
        PushedIn x = new PushedIn();
        for (int i = 0; i < 40; i++) {
            x.yard(0, i % 2);
            Due.comer(x, i + "-" + (40 + 16 * i) + "@" + i % 4 + "m" + i % 6 + "s" + i % 8 + "#" + i + "l" + i % 3);
        }
        for (int m = 0; m < 6; m++) {
            x.matter(m, 1, 99);
        }
        for (int i = 0; i < 12; i++) {
            x.away(i % 4, 1000 * i + i);
        }
        Due.text(x, "((((((w))))))?!!!!!!s;-(m+l*n/d%a)<b?w-s-m-l-n-d-a-b;1|2&3");
        for (int i = 0; i < 20; i++) {
            x.rule(i < 8 ? i : 7, 100 * i + i, i);
        }
        return x;
    }

    private static void fullest() {
        PushedIn x = full();
        due.is("forty comers", x.count(0), 40);
        due.is("twenty rules", x.count(1), 20);
        due.is("twelve absences", x.count(3), 12);
        due.holds("found", x.find(0) >= 0);
        due.holds("kept", x.kept(7) >= 0);
        due.holds("seldom", x.seldom(0, -1, 200) >= 0);
        due.holds("the last comer is bit 39", x.whom(39) >= 0);
    }

    private static int queries(PushedIn x) {
        int sum = 0;
        for (int d = 0; d < 4; d++) {
            sum += x.pairs(d, 0) + x.pairs(d, 1) + x.judge(d, 0) + x.judge(d, 1) + x.cant(d) + x.changed(d, -1);
            sum += x.idle(10 * d, 0) + x.idle(10 * d, 1) + x.seldom(10 * d, 5, 200) + x.along(11, d, 50);
            sum += x.stand(d, 0) + x.breaks(7, d, -1) + x.breaks(7, d, 0) + x.next(7, 10 * d, 100);
        }
        sum += x.find(0) + x.find(1) + x.kept(7) + x.led(3) + (int) x.whom(3) + x.fewest(0b101010101L) + x.of(3, 9);
        sum += x.yard(1, 3) + x.came(3, 1) + x.matter(3, 0, 2) + x.undo() + x.undo() + x.redo() + x.away(9, 9);
        sum += x.act(6, 3, 9) + x.trace(3) + x.keep(3, 3) + x.taken(3, 0) + x.row(3, 1, 60) + x.put(3, 3, 3L);
        sum += (int) x.element(3, 3) + x.shift(3, 0, 3, 5, 50) + x.comers(3, 0, 12) + x.count(0) + x.start(3, 30);
        sum += x.feed(4, 0x312b3531) + x.text() + x.feed(4, 0x35353535) + x.comer() + x.rule(0, 0, 0) + x.passed(1, 0);
        return sum;
    }

    private static void noObjects() {
        PushedIn x = full();
        com.sun.management.ThreadMXBean bean = (com.sun.management.ThreadMXBean) ManagementFactory.getThreadMXBean();
        long id = Thread.currentThread().getId();
        queries(x);
        bean.getThreadAllocatedBytes(id);
        long before = bean.getThreadAllocatedBytes(id);
        for (int i = 0; i < 200; i++) {
            queries(x);
        }
        // Asking the bean may take some itself; one object a round would take 200 times 16.
        long took = bean.getThreadAllocatedBytes(id) - before;
        due.holds("calls took " + took + " bytes", took < 1000);
        before = bean.getThreadAllocatedBytes(id);
        PushedIn y = new PushedIn();
        long made = bean.getThreadAllocatedBytes(id) - before;
        due.holds("a new object is small: " + made, made < 20000 && y.count(0) == 0);
    }
}
