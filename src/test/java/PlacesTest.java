/** Promises 31 to 39: acts, places. */
public final class PlacesTest {
    private static final Due due = new Due();

    public static void main(String[] args) {
        acts();
        trace();
        keepAndTaken();
        row();
        putAndElement();
        shift();
        count();
        due.end();
    }

    /** Eight rules of the kinds 0 to 7, so that a rule's number is its kind. */
    private static PushedIn rules() {
        PushedIn x = new PushedIn();
        for (int kind = 0; kind < 8; kind++) {
            x.rule(kind, 0, 0);
        }
        return x;
    }

    private static void acts() {
        PushedIn x = rules();
        int[][] wanted = {
            {5, 10, 5, 9}, {9, 18, 4, 18}, {7, 14, 21, 5}, {11, -22, 6, -24},
            {13, 26, 1, 21}, {10, 20, 0, 20 - 4 ^ 5}, {28, -56 - 4, 3, -60 - 7},
            {12, 24, (5 ^ 7) + 8, 24 - ((1 ^ 7) + 8)},
        };
        for (int rule = 0; rule < 8; rule++) {
            for (int act = 0; act < 4; act++) {
                due.is("act " + rule + " " + act, x.act(rule, act, 5), wanted[rule][act]);
            }
        }
        due.is("picks wraps", x.act(1, 0, Integer.MAX_VALUE), Integer.MIN_VALUE + 3);
        due.is("holds wraps", x.act(0, 1, Integer.MIN_VALUE), 0);
        due.is("rule below", x.act(-1, 0, 5), 0);
        due.is("rule above", x.act(8, 0, 5), 0);
        due.is("act below", x.act(0, -1, 5), 0);
        due.is("act above", x.act(0, 4, 5), 0);
    }

    private static void trace() {
        PushedIn x = rules();
        int[][] calls = {{0, 0}, {0, 1}, {0, 2}, {0, 3}, {1, 3}, {2, 3}, {3, 3}, {4, 3}, {5, 3}, {6, 3}, {7, 3}};
        int[][] bodies = {
            {1}, {10, 1}, {11}, {2, 10, 1, 11}, {2, 10, 20, 1, 11}, {2, 10, 1, 30, 11}, {2, 40, 10, 20, 1, 11},
            {2, 10, 50, 20, 1, 11}, {60, 2, 10, 1, 11}, {2, 70, 40, 10, 71, 20, 1, 11, 11}, {2, 10, 1, 80, 11, 1},
        };
        for (int c = 0; c < calls.length; c++) {
            x.act(calls[c][0], calls[c][1], 5);
            due.is("bodies that ran", x.count(5), bodies[c].length);
            for (int i = 0; i < bodies[c].length; i++) {
                due.is("trace of " + calls[c][0] + " " + calls[c][1] + " at " + i, x.trace(i), bodies[c][i]);
            }
            due.is("trace above", x.trace(bodies[c].length), -1);
            due.is("trace below", x.trace(-1), -1);
        }
        x.act(8, 0, 5);
        due.is("no trace of no rule", x.trace(0), -1);
        due.is("nothing ran", x.count(5), 0);
        x.act(0, 0, 5);
        x.act(0, 4, 5);
        due.is("no trace of no act", x.trace(0), -1);
    }

    private static void keepAndTaken() {
        PushedIn x = rules();
        due.is("keep place below", x.keep(-1, 0), -1);
        due.is("keep place above", x.keep(6, 0), -1);
        due.is("keep rule below", x.keep(0, -2), -1);
        due.is("keep rule above", x.keep(0, 8), -1);
        int[] under = {0b11111111, 0b01011010, 0b00000100, 0b01001000, 0b00010000, 0b00100000, 0b01000000, 0b10000000};
        for (int rule = 0; rule < 8; rule++) {
            due.is("keep", x.keep(5, rule), 1);
            for (int k = 0; k < 8; k++) {
                due.is("kind " + rule + " taken for " + k, x.taken(5, k), (under[k] >> rule & 1) != 0 ? rule : -12);
            }
        }
        due.is("taken place below", x.taken(-1, 0), -1);
        due.is("taken place above", x.taken(6, 0), -1);
        due.is("taken kind below", x.taken(5, -1), -1);
        due.is("taken kind above", x.taken(5, 8), -1);
        due.is("keep nothing", x.keep(5, -1), 1);
        due.is("nothing taken", x.taken(5, 0), -11);
        due.is("bad ahead of -11", x.taken(5, 8), -1);
        x.row(5, 0, 3);
        due.is("a row taken", x.taken(5, 0), -12);
        due.is("a rule in a row's place", x.keep(5, 3), 1);
        due.is("that rule", x.taken(5, 1), 3);
        due.is("no row there", x.put(5, 0, 1), -12);
    }

    private static void row() {
        PushedIn x = rules();
        due.is("row place below", x.row(-1, 0, 1), -1);
        due.is("row place above", x.row(6, 0, 1), -1);
        due.is("row sort below", x.row(0, -1, 1), -1);
        due.is("row sort above", x.row(0, 5, 1), -1);
        due.is("row of 61", x.row(0, 0, 61), -1);
        due.is("row of -1", x.row(0, 0, -1), -14);
        due.is("row of the least int", x.row(0, 4, Integer.MIN_VALUE), -14);
        due.is("bad ahead of -14", x.row(0, 5, -1), -1);
        due.is("nothing there still", x.taken(0, 0), -11);
        due.is("row of 0", x.row(0, 0, 0), 1);
        due.is("no element", x.element(0, 0), Long.MIN_VALUE);
        due.is("row of 60", x.row(0, 2, 60), 1);
        due.is("its last", x.element(0, 59), 0);
        x.put(0, 59, 7);
        x.put(0, 0, 7);
        due.is("a new row", x.row(0, 2, 60), 1);
        due.is("is of zeros from the first", x.element(0, 0), 0);
        due.is("is of zeros", x.element(0, 59), 0);
    }

    private static void putAndElement() {
        PushedIn x = rules();
        long[] put = {300, -1, 0x123456789AL, 0x8000, 0x80000000L, 256, Long.MIN_VALUE, 0};
        for (int sort = 0; sort < 5; sort++) {
            x.row(sort, sort, 8);
            for (int i = 0; i < put.length; i++) {
                long v = put[i];
                long want = sort == 0 ? (byte) v : sort == 1 ? (short) v : sort == 2 ? (int) v : sort == 3 ? v
                        : v == 0 ? 0 : 1;
                due.is("put", x.put(sort, i, v), 1);
                due.is("element of " + sort + " at " + i, x.element(sort, i), want);
            }
        }
        due.is("put place below", x.put(-1, 0, 1), -1);
        due.is("put place above", x.put(6, 0, 1), -1);
        due.is("put nothing there", x.put(5, 0, 1), -11);
        x.keep(5, 0);
        due.is("put in a rule", x.put(5, 99, 1), -12);
        due.is("put below", x.put(0, -1, 1), -13);
        due.is("put above", x.put(0, 8, 1), -13);
        long none = Long.MIN_VALUE;
        due.is("element place below", x.element(-1, 0), none);
        due.is("element place above", x.element(6, 0), none);
        due.is("element of a rule", x.element(5, 0), none);
        x.keep(5, -1);
        due.is("element of nothing", x.element(5, 0), none);
        due.is("element below", x.element(0, -1), none);
        due.is("element above", x.element(0, 8), none);
    }

    private static void shift() {
        PushedIn x = rules();
        Due.shorts(x, 0, 1, 2, 3, 4, 5, 6);
        Due.shorts(x, 1, 7, 8, 9);
        due.is("shift", x.shift(0, 1, 1, 0, 2), 2);
        row(x, 1, 2, 3, 9);
        due.is("shift up in the same", x.shift(0, 0, 0, 2, 4), 4);
        row(x, 0, 1, 2, 1, 2, 3, 4);
        due.is("shift down in the same", x.shift(0, 2, 0, 1, 4), 4);
        row(x, 0, 1, 1, 2, 3, 4, 4);
        due.is("shift none from the end", x.shift(0, 6, 1, 3, 0), 0);
        due.is("shift none from behind", x.shift(0, 7, 1, 3, 0), -13);
        due.is("shift none to behind", x.shift(0, 6, 1, 4, 0), -13);
        due.is("shift from below", x.shift(0, -1, 1, 0, 1), -13);
        due.is("shift to below", x.shift(0, 0, 1, -1, 1), -13);
        due.is("shift too many from", x.shift(1, 2, 0, 0, 2), -13);
        due.is("shift too many to", x.shift(0, 0, 1, 2, 2), -13);
        due.is("shift fewer than none", x.shift(0, 0, 1, 0, -1), -13);
        due.is("shift the greatest int", x.shift(0, 1, 1, 1, Integer.MAX_VALUE), -13);
        due.is("shift from the greatest int", x.shift(0, Integer.MAX_VALUE, 1, 1, 1), -13);
        due.is("shift the least int", x.shift(0, 1, 1, 1, Integer.MIN_VALUE), -13);
        row(x, 1, 2, 3, 9);
        due.is("shift place below", x.shift(-1, 0, 1, 0, 1), -1);
        due.is("shift place above", x.shift(6, 0, 1, 0, 1), -1);
        due.is("shift other below", x.shift(0, 0, -1, 0, 1), -1);
        due.is("shift other above", x.shift(0, 0, 6, 0, 1), -1);
        due.is("shift to nothing", x.shift(0, 0, 2, 0, 1), -11);
        due.is("shift from nothing", x.shift(2, 0, 0, 0, 1), -11);
        x.keep(3, 0);
        due.is("shift to a rule", x.shift(0, 0, 3, 0, 1), -12);
        due.is("shift from a rule", x.shift(3, 0, 0, 0, 1), -12);
        due.is("shift in a rule", x.shift(3, 0, 3, 0, 1), -12);
        due.is("-11 ahead of -12", x.shift(3, 0, 2, 0, 1), -11);
        x.row(4, 2, 3);
        due.is("shift to another sort", x.shift(0, 0, 4, 0, 1), -12);
        due.is("-12 ahead of -13", x.shift(0, -1, 4, 0, 1), -12);
    }

    private static void row(PushedIn x, int place, int... wanted) {
        for (int i = 0; i < wanted.length; i++) {
            due.is("row at " + i, x.element(place, i), wanted[i]);
        }
    }

    private static void count() {
        PushedIn x = Due.yard("5-40@0m0s0", "5-40@0m0s0");
        x.rule(0, 0, 0);
        Due.feed(x, "5-4");
        for (int i = 0; i < 4; i++) {
            x.away(0, i);
        }
        for (int i = 1; i < 6; i++) {
            x.yard(1, i);
        }
        x.act(0, 1, 0);
        int[] wanted = {2, 1, 3, 4, 5, 2};
        for (int what = 0; what < 6; what++) {
            due.is("count " + what, x.count(what), wanted[what]);
        }
        due.is("count below", x.count(-1), -1);
        due.is("count above", x.count(6), -1);
    }
}
