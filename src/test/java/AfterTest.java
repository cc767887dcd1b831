import java.util.ArrayList;
import java.util.Collections;
import java.util.HashSet;
import java.util.LinkedHashMap;
import java.util.List;
import java.util.Map;
import java.util.Set;

/**
 * Each promise once more after calls that change what it speaks of: in one yard all of ASKED is asked as it stands,
 * after each of the changes below, and with that undone and done again. What a change is not told to alter has to
 * be answered as before it.
 */
public final class AfterTest {
    private static final Due due = new Due();

    /**
     * Starts: comer 0 (behind 2) from 35 to 39, 1 from 20 to 29, 2 from 25 to 34, 3 (behind 1) from 50 to 59; on day 1
     * 4 from 3 to 8, 5 (behind 4) has none. So 1 and 2 surely passed 0, and 2 may have passed 1. One change is done
     * (comer 3 came at 25, not at 20), one undone (comer 2 at 16). One more comer waits on the tape, another one in
     * a row, in which the next five are none.
     */
    private static final String YARD = """
            '5-40@0m0s1#7' comer() '10-30@1m1s2l0' comer() '15-35@0m2s1' comer() '20-60@1m0s2#3' comer()
            yard(0, 1) '3-9@0m0s0' comer() '4-9@0m0s0l3' comer() yard(0, 0)
            start(3, 55) away(3, 5009) came(3, 25) came(2, 16) undo()
            rule(1, 0, 5) rule(3, 200, 9) rule(7, 302, 20) rule(6, 120, 0) 'w-s*a' text() act(1, 1, 4) keep(2, 1)
            row(0, 1, 10) put(0, 0, 33) put(0, 1, 58) put(0, 2, 1) put(0, 4, 1) put(0, 5, 51) put(0, 6, 72) put(0, 7, 4)
            '12-38@0m1s1#1l3'
            """;

    /** Each is asked of a yard of its own, so that calls that change something can be asked as well. */
    private static final Map<String, Long> ASKED = answers("""
            away(2, 100105) = 2 | matter(0, 1, 6) = 10 | matter(1, 1, 8) = 10 | matter(2, 0, 8) = 1
            matter(2, 1, 5) = 10 | yard(0, 0) = 0 | yard(1, 0) = 0 | yard(2, 0) = 0 | feed(1, 57) = 16
            comer() = 6 | comer() of(6, 0) = 0 | comers(0, 0, 2) = 1 | comers(0, 5, 1) = 0 | of(0, 8) = 2
            of(0, 9) = 35 | of(0, 10) = 39 | of(1, 1) = 10 | of(1, 9) = 20 | of(2, 1) = 15 | of(2, 9) = 25
            of(2, 10) = 34 | of(3, 1) = 25 | of(3, 8) = 1 | of(6, 2) = -1 | of(6, 6) = -1 | of(6, 7) = -1
            came(1, 29) = 10 | came(3, 30) = 25 | came(6, 30) = -1 | cant(0) = -2 | cant(1) = 5
            passed(100, 0) = 1 | passed(200, 0) = 1 | passed(201, 0) = 0 | passed(201, 1) = 1
            passed(600, 1) = -1 | pairs(0, 0) = 2 | pairs(0, 1) = 3 | start(6, 39) = -1 | judge(0, 0) = -2
            judge(0, 1) = 2 | whom(1) = 1 | whom(2) = 1 | whom(6) = -1 | fewest(7) = 2 | fewest(15) = 2
            fewest(71) = -1
            rule(0, 0, 0) = 4 | text() = -105 | next(0, 0, 20) = 0 | next(1, 0, 20) = 1 | next(2, 0, 20) = 0
            next(3, 1, 26) = 0 | next(4, 0, 20) = -1 | breaks(0, 0, -1) = 2 | breaks(0, 0, 0) = 1
            breaks(1, 0, 1) = 2 | breaks(2, 0, -1) = 2 | breaks(4, 0, -1) = -1 | kept(0) = 2 | kept(3) = 2
            kept(4) = -1 | find(0) = 3 | find(1) = 20 | led(0) = 13 | led(1) = 2 | led(2) = 0 | led(6) = -1
            changed(0, -1) = -5 | changed(0, 0) = -5 | changed(0, 1) = -1 | idle(0, 0) = 4 | idle(0, 1) = 35
            idle(1, 0) = 20 | idle(1, 1) = 30 | seldom(1, 9, 100) = 81 | seldom(2, 9, 100) = 85
            along(12, 0, 10) = 0 | along(11, 0, 99) = 1 | stand(0, 0) = 1 | stand(0, 1) = 18 | undo() = 0
            redo() = 0
            act(1, 1, 4) = -16 | act(4, 0, 5) = 0 | trace(0) = 40 | trace(1) = 10 | keep(5, 4) = -1
            row(0, 1, 5) element(0, 0) = 0 | put(1, 2, 70000) = -11 | put(1, 2, 70000) element(1, 2) = MIN
            put(0, 4, 70000) element(0, 4) = 4464 | element(0, 0) = 33 | element(0, 9) = 0 | element(1, 0) = MIN
            shift(0, 0, 1, 0, 3) = -11 | shift(0, 5, 0, 0, 5) element(0, 2) = 4 | taken(2, 0) = 3
            taken(2, 1) = 3 | taken(0, 0) = -12 | count(0) = 6 | count(1) = 4 | count(2) = 15 | count(3) = 1
            count(4) = 1 | count(5) = 4
            """);

    /** What no call of others can alter: the acts of a rule that is there, and a new row. */
    private static final Set<String> FIXED = Set.of("act(1, 1, 4)", "row(0, 1, 5) element(0, 0)");

    /** These have nothing to do with one another, so it does not matter which comes first. */
    private static final List<String> IN_ANY_ORDER = List.of("comer()", "away(0, 37037)", "away(1, 28028)",
            "matter(0, 0, 7)", "matter(1, 1, 20)", "matter(2, 0, 7)", "yard(1, 3)", "yard(2, 1)", "start(0, 20)",
            "start(3, -1)", "rule(5, 0, 0)", "row(1, 1, 3)", "put(0, 7, 0)", "keep(2, -1)", "came(1, 4)",
            "act(3, 1, 2)");

    /** Questions that change nothing, so that one yard can be asked all of them. */
    private static final Set<String> ASKING = Set.of("of", "cant", "passed", "pairs", "judge", "whom", "fewest", "next",
            "breaks", "kept", "find", "led", "changed", "idle", "seldom", "along", "stand", "trace", "element", "taken",
            "count");

    private static final Set<String> altered = new HashSet<>();

    public static void main(String[] args) {
        answered("", ASKED);
        comersCome();
        clerksAreAway();
        mattersTakeOtherTimes();
        theYardIsSetOtherwise();
        startsAreTold();
        rulesAndTextsAreTold();
        placesHoldOtherThings();
        insAreChanged();
        changesAreUndone();
        actsAndBytes();
        inAnyOrder();
        oneBehindAnother();
        eachPromiseIsAskedAndAltered();
        due.end();
    }

    private static void comersCome() {
        after("comer()", """
                feed(1, 57) = 1 | comer() = -100 | of(0, 8) = 6 | of(0, 9) = 38 | of(6, 2) = 38 | of(6, 6) = 1
                of(6, 7) = 3 | came(6, 30) = 12 | passed(600, 1) = 1 | pairs(0, 0) = 4 | pairs(0, 1) = 5
                start(6, 39) = 1 | judge(0, 1) = 4 | whom(2) = 65 | whom(6) = 1 | fewest(71) = 4 | text() = -100
                breaks(0, 0, -1) = 3 | breaks(2, 0, -1) = 3 | find(1) = 30 | led(6) = 0 | changed(0, 1) = -5
                idle(0, 0) = 3 | seldom(1, 9, 100) = 55 | seldom(2, 9, 100) = 63 | along(11, 0, 99) = 3
                count(0) = 7 | count(2) = 0
                """);
        after("comers(0, 0, 1)", """
                comer() = 7 | of(3, 8) = 6 | of(6, 2) = 58 | of(6, 7) = 1 | came(6, 30) = 33
                passed(600, 1) = 0 | pairs(0, 0) = 3 | pairs(0, 1) = 4 | start(6, 39) = 1 | judge(0, 0) = 3
                judge(0, 1) = 3 | whom(6) = 8 | fewest(71) = 2 | breaks(0, 0, -1) = 3 | breaks(2, 0, -1) = 3
                find(1) = 30 | led(6) = 0 | idle(1, 0) = 27 | seldom(1, 9, 100) = 76 | seldom(2, 9, 100) = 63
                along(12, 0, 10) = 1 | stand(0, 1) = 19 | count(0) = 7
                """);
    }

    private static void clerksAreAway() {
        after("away(0, 37037)", """
                away(2, 100105) = 3 | of(0, 9) = 38 | idle(0, 0) = 3 | seldom(1, 9, 100) = 53 | count(3) = 2
                """);
        after("away(0, 39039)", """
                away(2, 100105) = 3 | of(0, 9) = -2 | of(0, 10) = -2 | cant(0) = 0 | passed(100, 0) = 0
                passed(200, 0) = 0 | pairs(0, 0) = 0 | pairs(0, 1) = 1 | judge(0, 1) = 0 | whom(1) = 0
                whom(2) = 0 | fewest(7) = -1 | fewest(15) = -1 | next(0, 0, 20) = 1 | next(2, 0, 20) = 1
                next(3, 1, 26) = 3 | breaks(0, 0, -1) = 0 | breaks(0, 0, 0) = -1 | breaks(1, 0, 1) = -1
                breaks(2, 0, -1) = 0 | kept(0) = 3 | find(0) = 0 | find(1) = 5 | led(0) = 0 | led(1) = 7
                led(2) = 13 | idle(0, 0) = 0 | idle(0, 1) = -2 | seldom(1, 9, 100) = 100
                seldom(2, 9, 100) = 38 | count(3) = 2
                """);
        after("away(1, 30033)", """
                away(2, 100105) = 3 | idle(1, 0) = 16 | idle(1, 1) = 34 | count(3) = 2
                """);
        after("away(1, 28028) matter(2, 0, 7)", """
                away(2, 100105) = 3 | matter(2, 0, 8) = 7 | matter(2, 1, 5) = -1 | of(1, 9) = 29
                of(2, 10) = 28 | passed(201, 0) = 1 | pairs(0, 0) = 3 | judge(0, 1) = 3 | whom(2) = 3
                fewest(7) = 3 | fewest(15) = 3 | seldom(2, 9, 100) = 53 | stand(0, 1) = 9 | undo() = 1
                redo() = -5 | count(3) = 2 | count(4) = 2
                """);
    }

    private static void mattersTakeOtherTimes() {
        afterAndBack("matter(0, 0, 7)", """
                matter(0, 1, 6) = -1 | of(0, 9) = -2 | of(0, 10) = -2 | cant(0) = 0 | cant(1) = 4
                passed(100, 0) = 0 | passed(200, 0) = 0 | pairs(0, 0) = 0 | pairs(0, 1) = 1 | judge(0, 0) = 3
                judge(0, 1) = 0 | whom(1) = 0 | whom(2) = 0 | fewest(7) = -1 | fewest(15) = -1
                next(0, 0, 20) = 1 | next(2, 0, 20) = 1 | next(3, 1, 26) = 3 | breaks(0, 0, -1) = 0
                breaks(0, 0, 0) = -1 | breaks(1, 0, 1) = -1 | breaks(2, 0, -1) = 0 | kept(0) = 3 | find(0) = 0
                find(1) = 5 | led(0) = 0 | led(1) = 7 | led(2) = 13 | idle(0, 0) = 0 | idle(0, 1) = -2
                seldom(1, 9, 100) = 100 | seldom(2, 9, 100) = 38 | stand(0, 1) = 12 | undo() = 1 | redo() = -5
                count(4) = 2
                """);
        afterAndBack("matter(2, 0, 6)", """
                matter(2, 0, 8) = 6 | matter(2, 1, 5) = -1 | of(2, 10) = 29 | undo() = 1 | redo() = -5
                count(4) = 2
                """);
        afterAndBack("matter(1, 1, 20)", """
                matter(1, 1, 8) = 20 | of(1, 9) = 10 | next(1, 0, 20) = 0 | seldom(1, 9, 100) = 49
                stand(0, 1) = 28 | undo() = 1 | redo() = -5 | count(4) = 2
                """);
        afterAndBack("matter(2, 1, 20)", """
                matter(2, 1, 5) = 20 | of(2, 9) = 15 | judge(0, 1) = 3 | whom(2) = 3 | seldom(2, 9, 100) = 53
                stand(0, 0) = 0 | stand(0, 1) = 23 | undo() = 1 | redo() = -5 | count(4) = 2
                """);
    }

    private static void theYardIsSetOtherwise() {
        afterAndBack("yard(1, 3)", """
                yard(1, 0) = 3 | passed(100, 0) = 0 | passed(201, 1) = 0 | pairs(0, 0) = 1 | pairs(0, 1) = 1
                judge(0, 1) = 1 | whom(1) = 0 | fewest(7) = 1 | fewest(15) = 1 | kept(0) = 0 | kept(3) = 0
                find(1) = 30 | undo() = 1 | redo() = -5 | count(4) = 2
                """);
        after("yard(0, 2)", """
                yard(0, 0) = 2 | comer() of(6, 0) = 2
                """);
        after("yard(2, 1)", """
                yard(2, 0) = 1 | next(3, 1, 26) = 3 | led(0) = 15 | led(1) = 0 | changed(0, -1) = 1
                changed(0, 0) = 1 | idle(0, 0) = 0 | idle(0, 1) = -2
                """);
        after("yard(2, 1) comer()", """
                yard(2, 0) = 1 | feed(1, 57) = 1 | comer() = -100 | of(0, 8) = 6 | of(0, 9) = 38 | of(6, 2) = 38
                of(6, 6) = 1 | of(6, 7) = 3 | came(6, 30) = 12 | passed(600, 1) = 0 | start(6, 39) = 1
                whom(6) = 0 | fewest(71) = 2 | text() = -100 | next(3, 1, 26) = 3 | breaks(0, 0, -1) = 3
                breaks(2, 0, -1) = 3 | find(1) = 30 | led(0) = 15 | led(1) = 0 | led(6) = 0 | changed(0, -1) = 2
                changed(0, 0) = 1 | changed(0, 1) = 6 | idle(0, 0) = 2 | seldom(1, 9, 100) = 55
                seldom(2, 9, 100) = 63 | along(11, 0, 99) = 3 | count(0) = 7 | count(2) = 0
                """);
    }

    private static void startsAreTold() {
        after("start(0, 20)", """
                judge(0, 0) = 0 | judge(0, 1) = 0 | whom(1) = 0 | whom(2) = 0 | next(3, 1, 26) = 3
                breaks(0, 0, -1) = 1 | breaks(2, 0, -1) = 1 | find(1) = 10 | led(2) = 13
                seldom(2, 9, 100) = 57
                """);
        after("start(3, -1)", """
                seldom(1, 9, 100) = 53
                """);
    }

    private static void rulesAndTextsAreTold() {
        after("rule(5, 0, 0)", """
                rule(0, 0, 0) = 5 | next(4, 0, 20) = 2 | breaks(4, 0, -1) = 3 | kept(4) = 2 | act(4, 0, 5) = 9
                keep(5, 4) = 1 | count(1) = 5
                """);
        after("text() 's' text()", """
                feed(1, 57) = 1 | comer() = -100 | comer() of(6, 0) = -1 | text() = -100 | next(2, 0, 20) = 1
                led(0) = 9 | led(1) = 6 | count(2) = 0
                """);
    }

    private static void placesHoldOtherThings() {
        after("row(1, 1, 3)", """
                put(1, 2, 70000) = 1 | put(1, 2, 70000) element(1, 2) = 4464 | element(1, 0) = 0
                shift(0, 0, 1, 0, 3) = 3
                """);
        after("row(0, 1, 5)", """
                comers(0, 0, 2) = 0 | element(0, 0) = 0 | element(0, 9) = MIN
                shift(0, 5, 0, 0, 5) element(0, 2) = 0
                """);
        after("put(0, 0, 40)", """
                element(0, 0) = 40
                """);
        after("put(0, 7, 0)", """
                comers(0, 0, 2) = 2 | comers(0, 5, 1) = 1 | shift(0, 5, 0, 0, 5) element(0, 2) = 0
                """);
        after("shift(0, 5, 0, 0, 5)", """
                comers(0, 0, 2) = 0 | element(0, 0) = 51
                """);
        after("keep(2, -1)", """
                taken(2, 0) = -11 | taken(2, 1) = -11
                """);
        after("keep(0, 2)", """
                comers(0, 0, 2) = -12 | comers(0, 5, 1) = -12 | put(0, 4, 70000) element(0, 4) = MIN
                element(0, 0) = MIN | element(0, 9) = MIN | shift(0, 5, 0, 0, 5) element(0, 2) = MIN
                taken(0, 0) = 7
                """);
    }

    private static void insAreChanged() {
        afterAndBack("came(1, 4)", """
                of(1, 1) = 4 | came(1, 29) = 4 | passed(100, 0) = 0 | pairs(0, 0) = 1 | pairs(0, 1) = 2
                judge(0, 1) = 1 | whom(1) = 0 | fewest(7) = 1 | fewest(15) = 1 | next(0, 0, 20) = 1
                breaks(0, 0, -1) = 1 | breaks(0, 0, 0) = 2 | find(0) = 0 | find(1) = 15 | led(1) = 3
                seldom(2, 9, 100) = 53 | undo() = 1 | redo() = -5 | count(4) = 2
                """);
        afterAndBack("came(2, 4)", """
                of(2, 1) = 4 | passed(200, 0) = 0 | passed(201, 1) = 0 | pairs(0, 0) = 1 | pairs(0, 1) = 2
                whom(1) = 5 | whom(2) = 0 | fewest(7) = 1 | fewest(15) = 1 | next(0, 0, 20) = 2
                next(2, 0, 20) = 2 | breaks(0, 0, -1) = 1 | breaks(2, 0, -1) = 1 | find(1) = 10 | led(2) = 13
                seldom(1, 9, 100) = 49 | undo() = 1 | redo() = -5 | count(4) = 2
                """);
    }

    private static void changesAreUndone() {
        after("undo()", """
                of(3, 1) = 20 | came(3, 30) = 20 | seldom(2, 9, 100) = 57 | undo() = -5 | redo() = 1
                count(4) = 0
                """);
        after("redo()", """
                of(2, 1) = 16 | seldom(2, 9, 100) = 53 | undo() = 1 | redo() = -5 | count(4) = 2
                """);
    }

    private static void actsAndBytes() {
        after("act(3, 1, 2)", """
                trace(0) = 70 | trace(1) = 40 | count(5) = 7
                """);
        after("feed(1, 120)", """
                feed(1, 57) = 17 | comer() = -115 | comer() of(6, 0) = -1 | count(2) = 16
                """);
    }

    private static void inAnyOrder() {
        for (int i = 0; i < IN_ANY_ORDER.size(); i++) {
            for (int j = 0; j < i; j++) {
                inEitherOrder(IN_ANY_ORDER.get(j), IN_ANY_ORDER.get(i));
            }
        }
    }

    private static void inEitherOrder(String one, String other) {
        for (String asked : ASKED.keySet()) {
            due.is(other + " " + one + ", in either order: " + asked,
                    answer(other + one, asked), answer(one + other, asked));
        }
    }

    /** What one question leaves behind inside must not alter the answer to another, nor to itself. */
    private static void oneBehindAnother() {
        List<String> questions = new ArrayList<>(ASKED.keySet());
        questions.removeIf(asked -> !ASKING.contains(asked.substring(0, asked.indexOf('('))));
        PushedIn x = new PushedIn();
        Script.run(x, YARD);
        for (int round = 0; round < 2; round++) {
            for (String asked : questions) {
                due.is("one behind another " + asked, Script.run(x, asked), ASKED.get(asked));
                due.is("again at once " + asked, Script.run(x, asked), ASKED.get(asked));
            }
            Collections.reverse(questions);
        }
        due.holds("questions were asked", questions.size() > 60);
    }

    private static void eachPromiseIsAskedAndAltered() {
        for (String name : Calls.NAMES) {
            due.holds(name + " is asked", ASKED.keySet().stream().anyMatch(asked -> asked.startsWith(name + "(")));
        }
        for (String asked : ASKED.keySet()) {
            due.holds(asked + " is altered by something", altered.contains(asked) != FIXED.contains(asked));
        }
    }

    /** The change alters these answers, and no others. */
    private static void after(String change, String otherAnswers) {
        answered(change, alteredBy(otherAnswers));
    }

    /** The same for a change that can be undone: then all is as before it, and done again as behind it. */
    private static void afterAndBack(String change, String otherAnswers) {
        after(change, otherAnswers);
        answered(change + " undo()", ASKED);
        answered(change + " undo() redo()", alteredBy(otherAnswers));
    }

    private static Map<String, Long> alteredBy(String otherAnswers) {
        Map<String, Long> all = new LinkedHashMap<>(ASKED);
        answers(otherAnswers).forEach((asked, answer) -> {
            Long before = all.put(asked, answer);
            due.holds(asked + " is asked, and is another answer", before != null && !before.equals(answer));
            altered.add(asked);
        });
        return all;
    }

    private static void answered(String change, Map<String, Long> answers) {
        answers.forEach((asked, answer) -> due.is(change + " " + asked, answer(change, asked), answer));
    }

    private static long answer(String change, String asked) {
        return Script.run(new PushedIn(), YARD + change + asked);
    }

    /** Written as "call = answer | call = answer"; MIN is the least long. */
    private static Map<String, Long> answers(String table) {
        Map<String, Long> all = new LinkedHashMap<>();
        for (String entry : table.strip().split("\\s*[|\n]\\s*")) {
            String[] sides = entry.split(" = ");
            all.put(sides[0], sides[1].equals("MIN") ? Long.MIN_VALUE : Long.parseLong(sides[1]));
        }
        return all;
    }
}
