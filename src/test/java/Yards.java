import java.util.function.Supplier;

/** Yards that the tests of edges begin with: with nothing, with something and with as much as there can be of all. */
final class Yards {
    static final Supplier<PushedIn> EMPTY = PushedIn::new;
    static final Supplier<PushedIn> BUSY = Yards::busy;
    static final Supplier<PushedIn> FULL = Yards::full;

    private Yards() {
    }

    /** Three comers on day 0, two on day 1 (of which 4 has no starts), eight rules by kinds, some of the rest. */
    private static PushedIn busy() {
        PushedIn x = Due.yard("5-40@0m0s1#7", "10-30@1m1s2l0", "15-35@2m2s3");
        x.yard(0, 1);
        Due.comer(x, "3-9@0m0s0");
        Due.comer(x, "4-9@0m0s0l3");
        x.start(0, 33);
        x.start(4, 6);
        for (int kind = 0; kind < 8; kind++) {
            x.rule(kind, 100 * kind + 9, 10 + kind);
        }
        Due.text(x, "w>20?50;s=a&!d;l-n");
        x.away(1, 22022);
        x.matter(0, 1, 30);
        x.matter(1, 0, 4);
        x.yard(1, 2);
        x.came(2, 16);
        x.undo();
        x.act(6, 3, 5);
        Due.shorts(x, 0, 3, 9, 0, 0, 1, 718, 719, 3, 5, 7, 1, 2);
        x.row(1, 0, 3);
        x.put(1, 2, -128);
        x.keep(2, 6);
        x.row(3, 3, 60);
        x.put(3, 59, Long.MAX_VALUE);
        x.row(4, 1, 0);
        Due.feed(x, "7-9@");
        return x;
    }

    /** Forty comers, twenty rules, twelve absences, forty changes, sixty bytes on the tape, a row at each place. */
    private static PushedIn full() {
        PushedIn x = new PushedIn();
        comers(x, 40);
        for (int r = 0; r < 20; r++) {
            x.rule(r % 8, 100 * r + r, r);
        }
        Due.text(x, "w*3+s;1");
        for (int i = 0; i < 12; i++) {
            x.away(i % 4, 1001 * (300 + i));
        }
        for (int i = 0; i < 40; i++) {
            x.came(0, 30 + i % 2);
        }
        x.act(19, 3, 5);
        for (int place = 0; place < 6; place++) {
            x.row(place, place % 5, 60);
        }
        Due.feed(x, "5-9@0m0s0".repeat(7).substring(0, 60));
        return x;
    }

    /** So many comers by rows of twelve, by turns at the four doors, all of the day that is set. */
    static void comers(PushedIn x, int n) {
        int[] row = new int[60];
        for (int i = 0; i < 12; i++) {
            row[5 * i] = 10 + i;
            row[5 * i + 1] = 100 + 50 * i;
            row[5 * i + 2] = i % 4;
            row[5 * i + 3] = i % 6;
            row[5 * i + 4] = i % 8;
        }
        Due.shorts(x, 5, row);
        for (int came = 0; came < n; came += 12) {
            x.comers(5, 0, Math.min(12, n - came));
        }
        x.keep(5, -1);
    }
}
