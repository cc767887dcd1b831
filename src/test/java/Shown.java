import java.util.ArrayList;
import java.util.List;
import java.util.function.Supplier;

/**
 * All that later calls can show of an object. Some questions change what they ask, and an object has 512 calls
 * alone: so each of the parts below asks a twin of its own, made by the same calls.
 */
final class Shown {
    private final List<Long> answers = new ArrayList<>();
    private final Supplier<PushedIn> made;

    private Shown(Supplier<PushedIn> made) {
        this.made = made;
    }

    static List<Long> of(Supplier<PushedIn> made) {
        Shown all = new Shown(made);
        all.counts(made.get());
        all.comers(made.get(), 0, 5);
        all.comers(made.get(), 6, 10);
        all.passes(made.get());
        all.rules(made.get());
        all.survey(made.get());
        all.settings(made.get());
        all.changes(made.get());
        all.tape(made.get(), made.get());
        all.places(made.get());
        all.rows();
        return all.answers;
    }

    private void add(long answer) {
        answers.add(answer);
    }

    private void counts(PushedIn x) {
        for (int what = 0; what <= 5; what++) {
            add(x.count(what));
        }
        for (int i = 0; i < 24; i++) {
            add(x.trace(i));
        }
    }

    private void comers(PushedIn x, int first, int last) {
        for (int c = 0; c < x.count(0); c++) {
            for (int what = first; what <= last; what++) {
                add(x.of(c, what));
            }
        }
    }

    private void passes(PushedIn x) {
        for (int day = 0; day < 4; day++) {
            add(x.cant(day));
            for (int what = 0; what < 2; what++) {
                add(x.pairs(day, what));
                add(x.judge(day, what));
            }
        }
        int comers = x.count(0);
        for (int c = 0; c < comers; c++) {
            add(x.whom(c));
            add(x.led(c));
        }
    }

    private void rules(PushedIn x) {
        int rules = x.count(1);
        for (int r = 0; r < rules; r++) {
            add(x.kept(r));
            for (int day = 0; day < 4; day++) {
                add(x.breaks(r, day, -1));
                add(x.next(r, 10 * day + r % 4, 8 + 10 * day));
            }
            add(x.act(r, 3, 9));
        }
        add(x.find(0));
        add(x.find(1));
    }

    private void survey(PushedIn x) {
        for (int day = 0; day < 4; day++) {
            add(x.changed(day, -1));
            add(x.changed(day, 0));
            add(x.stand(day, 0));
            add(x.stand(day, 1));
            for (int door = 0; door < 4; door++) {
                add(x.idle(10 * day + door, 0));
                add(x.idle(10 * day + door, 1));
            }
            for (int sort = 0; sort < 8; sort++) {
                add(x.seldom(10 * day + sort, 7, 20));
                add(x.along(11 * sort, day, 99));
            }
        }
    }

    private void settings(PushedIn x) {
        for (int what = 0; what < 3; what++) {
            add(x.yard(what, 0));
        }
        for (int m = 0; m < 6; m++) {
            add(x.matter(m, 0, 1));
            add(x.matter(m, 1, 99));
        }
    }

    private void changes(PushedIn x) {
        int done = x.count(4);
        for (int i = 0; i <= done; i++) {
            add(x.undo());
            add(x.of(0, 1));
            add(x.of(0, 9));
            add(x.of(0, 10));
        }
        for (int i = 0; i <= 40; i++) {
            add(x.redo());
        }
        add(x.count(4));
    }

    private void tape(PushedIn asComer, PushedIn asText) {
        add(asComer.comer());
        int last = asComer.count(0) - 1;
        for (int what = 0; what <= 10; what++) {
            add(asComer.of(last, what));
        }
        int rule = Math.max(asText.rule(7, 305, 0), 7);
        add(asText.text());
        for (int t = 0; t < 50; t++) {
            add(asText.next(rule, 0, t));
        }
    }

    private void places(PushedIn x) {
        for (int place = 0; place < 6; place++) {
            add(x.put(place, 0, 1));
            add(x.shift(place, 0, 0, 0, 1));
            for (int k = 0; k < 8; k++) {
                add(x.taken(place, k));
            }
        }
    }

    private void rows() {
        for (int place = 0; place < 6; place++) {
            PushedIn x = made.get();
            for (int i = 0; i <= 60; i++) {
                add(x.element(place, i));
            }
        }
    }
}
