import java.util.List;
import java.util.function.Supplier;

/** The paragraph on the answers, over all promises: which of several is given, and that a refusal changes nothing. */
public final class AnswersEdgesTest {
    private static final Edges edge = new Edges();
    private static final List<Long> REFUSALS = List.of(-1L, -2L, -3L, -5L, -11L, -12L, -13L, -14L, Long.MIN_VALUE);
    private static final List<Supplier<PushedIn>> YARDS = List.of(Yards.EMPTY, Yards.BUSY, Yards.FULL);

    public static void main(String[] args) {
        badAheadOfFull();
        fullAheadOfAll();
        badAheadOfState();
        badAheadOfTheHosts();
        theHostsInOrder();
        constants();
        refusalsChangeNothing();
        objectsBesideOneAnother();
        fiveHundredAndTwelveCalls();
        edge.end();
    }

    private static void badAheadOfFull() {
        edge.says(0, "Answers, of several the one named first: BAD (-1): no such number, or it is not as said;");
        edge.refused(-1, Yards.FULL, "away", -1, 0);
        edge.refused(-1, Yards.FULL, "away", 0, 1000);
        edge.refused(-1, Yards.FULL, "feed", 0, 0);
        edge.refused(-1, Yards.FULL, "feed", 5, 0);
        edge.refused(-1, Yards.FULL, "rule", 8, 0, 0);
        edge.refused(-1, Yards.FULL, "rule", 0, 10000, 0);
        edge.refused(-1, Yards.FULL, "rule", 0, 0, -1);
        edge.refused(-1, Yards.FULL, "comers", 6, 0, 1);
    }

    private static void fullAheadOfAll() {
        edge.says(0, "NOT (-2): as told; FULL (-3);");
        edge.refused(-3, Yards.FULL, "away", 0, 0);
        edge.refused(-3, Yards.FULL, "feed", 1, 0);
        edge.refused(-3, Yards.FULL, "rule", 0, 0, 0);
        edge.refused(-3, Yards.FULL, "comer");
        edge.refused(-2, Yards.EMPTY, "cant", 0);
        edge.refused(-2, Yards.EMPTY, "judge", 0, 0);
        edge.refused(-2, Yards.EMPTY, "idle", 0, 1);
        edge.refused(-2, Yards.BUSY, "next", 0, 30, 719);
    }

    private static void badAheadOfState() {
        edge.says(0, "STATE (-5): as told;");
        edge.refused(-5, Yards.EMPTY, "find", 0);
        edge.refused(-1, Yards.EMPTY, "find", 2);
        edge.refused(-5, Yards.EMPTY, "changed", 0, -1);
        edge.refused(-1, Yards.EMPTY, "changed", 4, -1);
        edge.refused(-1, Yards.EMPTY, "changed", 0, 0);
        edge.refused(-5, Yards.EMPTY, "undo");
        edge.refused(-5, Yards.EMPTY, "redo");
    }

    private static void badAheadOfTheHosts() {
        edge.says(0, "-11 to -14.");
        edge.refused(-1, Yards.BUSY, "comers", 2, 0, 13);
        edge.refused(-1, Yards.BUSY, "row", 0, 5, -1);
        edge.refused(-1, Yards.BUSY, "row", 6, 0, -1);
        edge.refused(-1, Yards.BUSY, "put", 6, -1, 0);
        edge.refused(-1, Yards.BUSY, "shift", 5, -1, 6, 0, 1);
        edge.refused(-1, Yards.BUSY, "shift", 6, -1, 5, 0, 1);
        edge.refused(-1, Yards.BUSY, "taken", 5, 8);
        edge.refused(-1, Yards.BUSY, "taken", 0, -1);
    }

    private static void theHostsInOrder() {
        edge.says(37, "BAD, -11 (either), -12 (no ROWS, or of unlike sorts), -13.");
        edge.refused(-11, Yards.BUSY, "shift", 2, -1, 5, 0, 1);
        edge.refused(-11, Yards.BUSY, "shift", 5, -1, 2, 0, 1);
        edge.refused(-12, Yards.BUSY, "shift", 2, -1, 0, 0, 1);
        edge.refused(-12, Yards.BUSY, "shift", 0, -1, 1, 0, 1);
        edge.refused(-13, Yards.BUSY, "shift", 0, -1, 4, 0, 1);
        edge.says(35, "BAD, -11, -12, -13.");
        edge.refused(-11, Yards.BUSY, "put", 5, -1, 1);
        edge.refused(-12, Yards.BUSY, "put", 2, -1, 1);
        edge.refused(-13, Yards.BUSY, "put", 4, -1, 1);
    }

    private static void constants() {
        edge.says(0, "VOID is -2000000000.");
        edge.is("VOID", PushedIn.VOID, -2000000000);
        edge.is("BAD", PushedIn.BAD, -1);
        edge.is("NOT", PushedIn.NOT, -2);
        edge.is("FULL", PushedIn.FULL, -3);
        edge.is("STATE", PushedIn.STATE, -5);
    }

    /** An act may give -1 as well as any other number, and the trace is another then: it is left out here. */
    private static void refusalsChangeNothing() {
        edge.says(0, "What is answered so changes nothing.");
        Calls calls = new Calls(5);
        for (Supplier<PushedIn> yard : YARDS) {
            PushedIn x = yard.get();
            int comers = x.count(0);
            int rules = x.count(1);
            for (String name : Calls.NAMES) {
                for (int i = 0; i < 24 && !name.equals("act"); i++) {
                    long[] args = i % 2 == 0 ? calls.wild(name) : calls.sensible(name, comers, rules);
                    long answer = Edges.answered(yard.get(), name, args);
                    if (REFUSALS.contains(answer)) {
                        edge.unchanged(yard, name, args);
                    }
                }
            }
        }
    }

    private static void objectsBesideOneAnother() {
        edge.says(0, "All memory is the class's own.");
        for (Supplier<PushedIn> one : YARDS) {
            for (Supplier<PushedIn> other : YARDS) {
                List<Long> alone = Shown.of(one);
                List<Long> beside = Shown.of(() -> {
                    PushedIn x = one.get();
                    PushedIn y = other.get();
                    y.act(6, 3, 7);
                    Due.text(y, "1-s");
                    y.undo();
                    return x;
                });
                String what = YARDS.indexOf(one) + " beside " + YARDS.indexOf(other);
                edge.is(what + " is as it is alone", alone.equals(beside) ? 1 : 0, 1);
            }
        }
    }

    private static void fiveHundredAndTwelveCalls() {
        edge.says(-1, "An object is used for at most 512 calls after it has been made;");
        PushedIn x = new PushedIn();
        for (int i = 1; i <= 508; i++) {
            x.yard(1, i % 31);
        }
        edge.is("the 509th call: forty changes are kept of all", x.count(4), 40);
        edge.is("the 510th call", x.undo(), 39);
        edge.is("the 511th call: the 507th change is the latest", x.yard(1, 507 % 31), 507 % 31);
        edge.is("the 512th call", x.redo(), 0);
    }
}
