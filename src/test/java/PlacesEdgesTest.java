import java.util.function.Supplier;

/** Part 5 of the terms and promises 31 to 39: each sentence at its edges. */
public final class PlacesEdgesTest {
    private static final Edges edge = new Edges();
    private static final long HERE = Edges.HERE;
    private static final long NO_ELEMENT = Long.MIN_VALUE;

    /** The bodies that run, as they begin: by acts and, within an act, by kinds. */
    private static final int[][][] RAN = {
        {{1}, {20, 1}, {1}, {20, 1}, {50, 20, 1}, {1}, {71, 20, 1}, {1}},
        {{10, 1}, {10, 20, 1}, {10, 1}, {40, 10, 20, 1}, {10, 50, 20, 1}, {10, 1}, {70, 40, 10, 71, 20, 1, 11}, {10, 1}},
        {{11}, {11}, {30, 11}, {11}, {11}, {11}, {11}, {80, 11, 1}},
        {{2, 10, 1, 11}, {2, 10, 20, 1, 11}, {2, 10, 1, 30, 11}, {2, 40, 10, 20, 1, 11}, {2, 10, 50, 20, 1, 11},
            {60, 2, 10, 1, 11}, {2, 70, 40, 10, 71, 20, 1, 11, 11}, {2, 10, 1, 80, 11, 1}},
    };

    public static void main(String[] args) {
        actsThatWrap();
        bodies();
        superBodies();
        theTrace();
        places();
        whatRowsKeep();
        refusals();
        comersByFives();
        whereComersEnd();
        fivesThatMayNotBe();
        act();
        trace();
        keep();
        row();
        put();
        element();
        shift();
        shiftRefused();
        taken();
        count();
        edge.end();
    }

    /** Twenty rules: of the kinds 0 to 7, again and again. */
    private static PushedIn rules() {
        PushedIn x = new PushedIn();
        for (int r = 0; r < 20; r++) {
            x.rule(r % 8, 0, 0);
        }
        return x;
    }

    private static int picks(int kind, int n, int x) {
        switch (kind) {
            case 1: case 3: return x + n + 3;
            case 4: return x + 1 + n + 3;
            case 6: return (x + n + 3) * 2;
            default: return x + n;
        }
    }

    private static int holds(int kind, int n, int x) {
        int twice = picks(kind, n, x) * 2;
        return kind == 3 ? -twice : kind == 6 ? -twice - (2 ^ n) : twice;
    }

    private static int costs(int kind, int n, int x) {
        int plain = x ^ n;
        return kind == 2 ? plain * 3 : kind == 7 ? plain + picks(kind, n, 1) : plain;
    }

    private static int tells(int kind, int n, int x) {
        int plain = holds(kind, n, x) - costs(kind, n, 1);
        return kind == 5 ? plain ^ 5 : plain;
    }

    // ---- terms

    private static void actsThatWrap() {
        edge.says(0, "======== 5 ACTS of RULES with x (an int that wraps): 0 picks, 1 holds, 2 costs, 3 tells; n its "
                + "number.");
        PushedIn x = rules();
        edge.is("n is 0", x.act(0, 0, 7), 7);
        edge.is("n is 19", x.act(19, 0, 7), 7 + 19 + 3);
        edge.is("picks wraps", x.act(8, 0, Integer.MAX_VALUE), Integer.MIN_VALUE + 7);
        edge.is("holds wraps", x.act(8, 1, Integer.MAX_VALUE), 14);
        edge.is("holds of the least int", x.act(0, 1, Integer.MIN_VALUE), 0);
        edge.is("- of the least int", x.act(3, 1, (1 << 30) - 6), Integer.MIN_VALUE);
        edge.is("costs of the least int", x.act(8, 2, Integer.MIN_VALUE), Integer.MIN_VALUE + 8);
        edge.is("costs of -1", x.act(1, 2, -1), -2);
        edge.is("costs times 3 wraps", x.act(2, 2, Integer.MAX_VALUE), (Integer.MAX_VALUE - 2) * 3);
        edge.is("x + 1 wraps", x.act(4, 0, Integer.MAX_VALUE), Integer.MIN_VALUE + 7);
        edge.is("tells wraps", x.act(0, 3, 1 << 30), Integer.MAX_VALUE);
    }

    private static void bodies() {
        edge.says(0, "BODIES of acts: PICKS (an interface of RULE): 1 picks: x + n. RULE: 10 holds: picks(x) * 2. 11 "
                + "costs: x ^ n. TELLS (of RULE): 2 tells: holds(x) - costs(1). FIRST: 20 picks: super.picks(x) + 3. "
                + "NUMBER: 30 costs: super.costs(x) * 3. SORT: 40 holds: -super.holds(x). QUICK: 50 picks: super.picks(x "
                + "+ 1). LAST: 60 tells: super.tells(x) ^ 5. MIXED: 70 holds: super.holds(x) - costs(2). 71 picks: "
                + "super.picks(x) * 2. TOLD: 80 costs: super.costs(x) + picks(1).");
        for (int v : new int[] {0, 1, -1, 5, 12345, Integer.MAX_VALUE, Integer.MIN_VALUE}) {
            PushedIn x = rules();
            for (int r = 0; r < 20; r++) {
                edge.is("picks of rule " + r + " with " + v, x.act(r, 0, v), picks(r % 8, r, v));
                edge.is("holds of rule " + r + " with " + v, x.act(r, 1, v), holds(r % 8, r, v));
                edge.is("costs of rule " + r + " with " + v, x.act(r, 2, v), costs(r % 8, r, v));
                edge.is("tells of rule " + r + " with " + v, x.act(r, 3, v), tells(r % 8, r, v));
            }
        }
        PushedIn y = rules();
        long[] fives = {y.act(6, 0, 5), y.act(6, 1, 5), y.act(6, 2, 5), y.act(6, 3, 5), y.act(7, 2, 5), y.act(7, 3, 5),
            y.act(5, 3, 5)};
        edge.are("of mixed, told and last with 5", fives, 28, -60, 3, -67, 10, 10, 21);
    }

    private static void superBodies() {
        edge.says(0, "picks(..) and so on: the body of its own KIND, or of the next KIND above that has one; super: from "
                + "the KIND above the body's on.");
        PushedIn x = rules();
        for (int act = 0; act < 4; act++) {
            for (int kind = 0; kind < 8; kind++) {
                x.act(kind, act, 5);
                int[] ran = RAN[act][kind];
                edge.is("bodies of kind " + kind + ", act " + act, x.count(5), ran.length);
                for (int i = 0; i < ran.length; i++) {
                    edge.is("body " + i + " of kind " + kind + ", act " + act, x.trace(i), ran[i]);
                }
            }
        }
    }

    private static void theTrace() {
        edge.says(0, "THE TRACE: numbers of the bodies that ran in the latest act(), as they began; the first 24 are "
                + "kept.");
        PushedIn x = rules();
        edge.is("no act yet", x.trace(0), -1);
        x.act(6, 3, 5);
        edge.is("nine bodies, the most that run", x.count(5), 9);
        edge.is("the first", x.trace(0), 2);
        edge.is("the last", x.trace(8), 11);
        edge.is("behind the last", x.trace(9), -1);
        edge.is("the last that could be kept", x.trace(23), -1);
        edge.is("the first that could not", x.trace(24), -1);
        x.act(0, 0, 5);
        edge.is("of the latest act alone", x.trace(0), 1);
        edge.is("no more of the one before", x.trace(1), -1);
        x.find(0);
        x.rule(0, 0, 0);
        x.keep(0, 0);
        edge.is("other calls leave it", x.trace(0), 1);
    }

    private static void places() {
        edge.says(0, "PLACES 0 .. 5 each hold nothing (at first), a RULE, or a ROW: of 0 bytes, 1 shorts, 2 ints, 3 longs, "
                + "4 booleans, of 0 .. 60 elements, 0 at first (false);");
        PushedIn x = rules();
        for (int place = 0; place < 6; place++) {
            edge.is("nothing at first", x.taken(place, 0), -11);
            edge.is("a rule", x.keep(place, 19), 1);
            edge.is("that rule", x.taken(place, 0), 3);
            edge.is("a row", x.row(place, place % 5, 60), 1);
            edge.is("no rule any more", x.taken(place, 0), -12);
        }
        for (int place = 0; place < 6; place++) {
            edge.is("its last element at first", x.element(place, 59), 0);
            edge.is("no element behind", x.element(place, 60), NO_ELEMENT);
        }
        edge.bounds(Yards.BUSY, 0, 5, "keep", HERE, 0);
        edge.bounds(Yards.BUSY, 0, 5, "row", HERE, 0, 1);
        edge.bounds(Yards.BUSY, 0, 4, "row", 0, HERE, 1);
        PushedIn y = new PushedIn();
        edge.is("a row of no elements", y.row(0, 0, 0), 1);
        edge.is("has none", y.element(0, 0), NO_ELEMENT);
        edge.is("but is there", y.taken(0, 0), -12);
        for (int sort = 0; sort < 5; sort++) {
            y.row(0, sort, 60);
            for (int i = 0; i < 60; i += 59) {
                y.put(0, i, -1);
            }
            y.row(0, sort, 60);
            edge.is("a new row is 0 at its first", y.element(0, 0), 0);
            edge.is("a new row is 0 at its last", y.element(0, 59), 0);
        }
    }

    private static void whatRowsKeep() {
        edge.says(0, "what is put in keeps its lowest bits (a boolean: whether it is not 0; 1 or 0).");
        long[] put = {0, 1, -1, 127, 128, 255, 256, -128, -129, 32767, 32768, 65535, 65536, -32769, Integer.MAX_VALUE,
            1L << 31, 1L << 32, -1L << 32, Long.MAX_VALUE, Long.MIN_VALUE};
        PushedIn x = new PushedIn();
        for (int sort = 0; sort < 5; sort++) {
            x.row(sort, sort, put.length);
        }
        for (int i = 0; i < put.length; i++) {
            long v = put[i];
            long[] kept = {(byte) v, (short) v, (int) v, v, v == 0 ? 0 : 1};
            for (int sort = 0; sort < 5; sort++) {
                edge.is("put " + v, x.put(sort, i, v), 1);
                edge.is("kept in a row of sort " + sort, x.element(sort, i), kept[sort]);
            }
        }
    }

    private static void refusals() {
        edge.says(0, "The host's REFUSALS: -11 nothing is there where something is wanted; -12 it is of another kind; -13 "
                + "a place that is not there; -14 a size below 0.");
        edge.refused(-11, Yards.BUSY, "put", 5, 0, 1);
        edge.refused(-11, Yards.BUSY, "taken", 5, 0);
        edge.refused(-11, Yards.BUSY, "shift", 0, 0, 5, 0, 1);
        edge.refused(-12, Yards.BUSY, "put", 2, 0, 1);
        edge.refused(-12, Yards.BUSY, "taken", 0, 0);
        edge.refused(-12, Yards.BUSY, "taken", 2, 2);
        edge.refused(-12, Yards.BUSY, "comers", 2, 0, 1);
        edge.refused(-13, Yards.BUSY, "put", 0, 12, 1);
        edge.refused(-13, Yards.BUSY, "put", 0, -1, 1);
        edge.refused(-13, Yards.BUSY, "shift", 0, 12, 0, 0, 1);
        edge.refused(-14, Yards.BUSY, "row", 0, 0, -1);
        edge.refused(-14, Yards.BUSY, "row", 5, 4, Integer.MIN_VALUE);
    }

    private static void comersByFives() {
        edge.says(0, "COMERS FROM A ROW of shorts, from a place on: by fives IN, OUT, DOOR, MATTER, SORT (no NUMBER, LINE "
                + "as DOOR): n of them;");
        PushedIn x = new PushedIn();
        x.yard(0, 2);
        Due.shorts(x, 0, 8, 1, 30, 2, 5, 7, 0, 719, 3, 0, 0, 718, 719, 0, 1, 2);
        edge.is("two of three", x.comers(0, 1, 2), 2);
        int[][] wanted = {{2, 1, 30, 2, 5, 7, -1, 2}, {2, 0, 719, 3, 0, 0, -1, 3}};
        for (int c = 0; c < 2; c++) {
            for (int what = 0; what < 8; what++) {
                edge.is("of " + c + ", " + what, x.of(c, what), wanted[c][what]);
            }
        }
        edge.is("one", x.comers(0, 11, 1), 1);
        edge.is("from where the row ends", x.comers(0, 16, 1), 0);
        PushedIn y = new PushedIn();
        Yards.comers(y, 12);
        edge.is("twelve, as many as a row has", y.count(0), 12);
    }

    private static void whereComersEnd() {
        edge.says(0, "it ends where the row is missing, ends (at a place below 0, too; within a five, too), one is not as "
                + "it may be, or COMERS are FULL: those ahead came.");
        PushedIn x = new PushedIn();
        edge.is("the row is missing", x.comers(0, 0, 1), 0);
        x.row(0, 1, 0);
        edge.is("a row of no elements", x.comers(0, 0, 12), 0);
        Due.shorts(x, 0, 5, 9, 0, 0, 0, 6, 9, 0, 0, 0, 7, 9, 0, 0);
        int[] nowhere = {-1, -4, -5, -6, 14, 15, Integer.MAX_VALUE, Integer.MAX_VALUE - 4, Integer.MIN_VALUE};
        for (int i : nowhere) {
            edge.is("from " + i, x.comers(0, i, 12), 0);
        }
        edge.is("within the last five", x.comers(0, 10, 1), 0);
        edge.is("nobody came", x.count(0), 0);
        edge.is("two ahead of where it ends", x.comers(0, 0, 3), 2);
        edge.is("one ahead of where it ends", x.comers(0, 5, 12), 1);
        x.put(0, 5, 9);
        edge.is("one ahead of one that may not be", x.comers(0, 0, 2), 1);
        edge.is("four came", x.count(0), 4);
        PushedIn y = new PushedIn();
        Yards.comers(y, 38);
        Due.shorts(y, 0, 5, 9, 0, 0, 0, 6, 9, 0, 0, 0, 7, 9, 0, 0, 0);
        edge.is("till comers are full", y.comers(0, 0, 3), 2);
        edge.is("comers are full", y.comers(0, 0, 3), 0);
        edge.is("the last one", y.of(39, 1), 6);
    }

    private static void fivesThatMayNotBe() {
        edge.says(0, "one is not as it may be,");
        int[][] may = {{0, 1, 0, 0, 0}, {718, 719, 3, 5, 7}, {0, 719, 0, 0, 0}};
        for (int[] five : may) {
            edge.is("taken", cameOf(five), 1);
        }
        int[][] not = {
            {-1, 9, 0, 0, 0}, {9, 9, 0, 0, 0}, {10, 9, 0, 0, 0}, {719, 719, 0, 0, 0}, {718, 720, 0, 0, 0}, {0, 0, 0, 0, 0},
            {-2, -1, 0, 0, 0}, {0, -1, 0, 0, 0}, {5, 9, -1, 0, 0}, {5, 9, 4, 0, 0}, {5, 9, 0, -1, 0}, {5, 9, 0, 6, 0},
            {5, 9, 0, 0, -1}, {5, 9, 0, 0, 8}, {-32768, 32767, 0, 0, 0}, {5, 32767, 0, 0, 0},
        };
        for (int[] five : not) {
            edge.is("in " + five[0] + ", out " + five[1] + ", " + five[2] + five[3] + five[4], cameOf(five), 0);
        }
    }

    private static int cameOf(int[] five) {
        PushedIn x = new PushedIn();
        Due.shorts(x, 0, five);
        return x.comers(0, 0, 1);
    }

    // ---- promises

    private static void act() {
        edge.says(31, "An ACT (0 .. 3) of a RULE with x. 0, and no TRACE then: no such RULE, ACT.");
        for (int act = 0; act < 4; act++) {
            edge.is("act " + act + " of the last rule", rules().act(19, act, 5),
                    new int[] {27, -54, 22, -72}[act]);
        }
        int[][] none = {{-1, 0}, {20, 0}, {0, -1}, {0, 4}, {Integer.MIN_VALUE, 0}, {Integer.MAX_VALUE, 0},
            {0, Integer.MIN_VALUE}, {0, Integer.MAX_VALUE}};
        for (int[] n : none) {
            PushedIn x = rules();
            x.act(6, 3, 5);
            edge.is("act " + n[1] + " of rule " + n[0], x.act(n[0], n[1], 5), 0);
            edge.is("no trace", x.trace(0), -1);
            edge.is("nothing ran", x.count(5), 0);
        }
        edge.is("no rules", new PushedIn().act(0, 0, 5), 0);
        edge.is("a 0 that an act gives", rules().act(0, 0, 0), 0);
    }

    private static void trace() {
        edge.says(32, "THE TRACE's i-th body. BAD.");
        edge.bounds(Yards.BUSY, 0, 8, "trace", HERE);
        edge.refused(-1, Yards.EMPTY, "trace", 0);
        edge.refused(-1, Yards.BUSY, "trace", 23);
        edge.refused(-1, Yards.BUSY, "trace", 24);
    }

    private static void keep() {
        edge.says(33, "A PLACE holds nothing (rule -1), or a RULE: 1. BAD.");
        edge.bounds(Yards.BUSY, 0, 5, "keep", HERE, -1);
        edge.bounds(Yards.BUSY, -1, 7, "keep", 0, HERE);
        edge.bounds(Yards.FULL, -1, 19, "keep", 0, HERE);
        edge.refused(-1, Yards.EMPTY, "keep", 0, 0);
        PushedIn x = rules();
        edge.is("nothing where nothing was", x.keep(0, -1), 1);
        edge.is("a rule", x.keep(0, 7), 1);
        edge.is("another rule", x.keep(0, 6), 1);
        edge.is("that one", x.taken(0, 6), 6);
        edge.is("nothing again", x.keep(0, -1), 1);
        edge.is("nothing there", x.taken(0, 6), -11);
        x.row(0, 1, 60);
        x.keep(0, -1);
        edge.is("nothing where a row was", x.element(0, 0), NO_ELEMENT);
        edge.is("missing", x.comers(0, 0, 1), 0);
    }

    private static void row() {
        edge.says(34, "A PLACE holds a ROW: 1. BAD (sort, n above 60); -14.");
        edge.bounds(Yards.BUSY, 0, 5, "row", HERE, 4, 60);
        edge.bounds(Yards.BUSY, 0, 4, "row", 5, HERE, 0);
        for (int place = 0; place < 6; place++) {
            edge.refused(-1, Yards.BUSY, "row", place, 0, 61);
            edge.refused(-1, Yards.BUSY, "row", place, 4, Integer.MAX_VALUE);
            edge.refused(-14, Yards.BUSY, "row", place, 0, -1);
        }
        edge.taken(Yards.BUSY, "row", 2, 3, 0);
        edge.taken(Yards.BUSY, "row", 2, 3, 60);
        edge.refused(-1, Yards.BUSY, "row", 6, 0, -1);
        edge.refused(-1, Yards.BUSY, "row", 0, 5, -1);
        edge.refused(-1, Yards.BUSY, "row", 0, -1, Integer.MIN_VALUE);
    }

    private static void put() {
        edge.says(35, "Element i of a ROW becomes v: 1. BAD, -11, -12, -13.");
        edge.bounds(Yards.FULL, 0, 5, "put", HERE, 59, 7);
        edge.taken(Yards.BUSY, "put", 0, 0, 7);
        edge.taken(Yards.BUSY, "put", 0, 11, 7);
        for (int i : new int[] {-1, 12, 59, Integer.MIN_VALUE, Integer.MAX_VALUE}) {
            edge.refused(-13, Yards.BUSY, "put", 0, i, 7);
            edge.refused(-12, Yards.BUSY, "put", 2, i, 7);
            edge.refused(-11, Yards.BUSY, "put", 5, i, 7);
            edge.refused(-1, Yards.BUSY, "put", 6, i, 7);
        }
        edge.refused(-13, Yards.BUSY, "put", 4, 0, 7);
        edge.refused(-12, Yards.BUSY, "put", 2, 0, 7);
        edge.refused(-11, Yards.BUSY, "put", 5, 0, 7);
        edge.refused(-1, Yards.BUSY, "put", -1, 0, 7);
    }

    private static void element() {
        edge.says(36, "Element i of a ROW; Long.MIN_VALUE: BAD, -11 to -13.");
        PushedIn x = Yards.BUSY.get();
        edge.is("the first", x.element(0, 0), 3);
        edge.is("the last", x.element(0, 11), 2);
        edge.is("the last of sixty", x.element(3, 59), Long.MAX_VALUE);
        int[][] none = {{0, -1}, {0, 12}, {0, Integer.MIN_VALUE}, {0, Integer.MAX_VALUE}, {1, 3}, {2, 0}, {3, 60}, {4, 0},
            {5, 0}, {-1, 0}, {6, 0}, {Integer.MIN_VALUE, 0}, {Integer.MAX_VALUE, 0}};
        for (int[] n : none) {
            edge.refused(NO_ELEMENT, Yards.BUSY, "element", n[0], n[1]);
        }
        x.put(3, 0, Long.MIN_VALUE);
        edge.is("an element that is the least long", x.element(3, 0), Long.MIN_VALUE);
    }

    private static void rowIs(PushedIn x, int place, long... wanted) {
        long[] got = new long[wanted.length];
        for (int i = 0; i < got.length; i++) {
            got[i] = x.element(place, i);
        }
        edge.are("row at place " + place, got, wanted);
    }

    private static PushedIn twoRows() {
        PushedIn x = new PushedIn();
        Due.shorts(x, 0, 1, 2, 3, 4, 5, 6);
        Due.shorts(x, 1, 7, 8, 9);
        return x;
    }

    private static void shift() {
        edge.says(37, "n elements of a ROW from i on come to another one (or the same) from j on, as they all were before: "
                + "n.");
        PushedIn x = twoRows();
        edge.is("to another one", x.shift(0, 3, 1, 0, 3), 3);
        rowIs(x, 1, 4, 5, 6);
        rowIs(x, 0, 1, 2, 3, 4, 5, 6);
        edge.is("up in the same one", x.shift(0, 0, 0, 1, 5), 5);
        rowIs(x, 0, 1, 1, 2, 3, 4, 5);
        edge.is("down in the same one", x.shift(0, 1, 0, 0, 5), 5);
        rowIs(x, 0, 1, 2, 3, 4, 5, 5);
        edge.is("all to where they are", x.shift(0, 0, 0, 0, 6), 6);
        rowIs(x, 0, 1, 2, 3, 4, 5, 5);
        edge.is("none", x.shift(0, 0, 1, 0, 0), 0);
        edge.is("none from the end to the end", x.shift(0, 6, 1, 3, 0), 0);
        rowIs(x, 1, 4, 5, 6);
        PushedIn y = new PushedIn();
        for (int sort = 0; sort < 5; sort++) {
            y.row(0, sort, 60);
            y.row(1, sort, 60);
            y.put(0, 59, 1);
            edge.is("all sixty of sort " + sort, y.shift(0, 0, 1, 0, 60), 60);
            edge.is("the last of sixty", y.element(1, 59), 1);
        }
        y.row(2, 0, 0);
        edge.is("none of none", y.shift(2, 0, 2, 0, 0), 0);
    }

    private static void shiftRefused() {
        edge.says(37, "BAD, -11 (either), -12 (no ROWS, or of unlike sorts), -13.");
        Supplier<PushedIn> two = PlacesEdgesTest::twoRows;
        int[][] outside = {{-1, 0, 1}, {0, -1, 1}, {4, 0, 3}, {0, 1, 3}, {0, 0, 4}, {7, 0, 0}, {0, 4, 0}, {0, 0, -1},
            {6, 3, 1}, {-1, -1, 0}, {1, 1, Integer.MAX_VALUE}, {Integer.MAX_VALUE, 0, 1}, {0, Integer.MAX_VALUE, 1},
            {Integer.MIN_VALUE, 0, 1}, {0, 0, Integer.MIN_VALUE}, {Integer.MAX_VALUE, Integer.MAX_VALUE, Integer.MAX_VALUE}};
        for (int[] o : outside) {
            edge.refused(-13, two, "shift", 0, o[0], 1, o[1], o[2]);
            edge.refused(-12, Yards.BUSY, "shift", 0, o[0], 1, o[1], o[2]);
            edge.refused(-12, Yards.BUSY, "shift", 2, o[0], 2, o[1], o[2]);
            edge.refused(-11, Yards.BUSY, "shift", 0, o[0], 5, o[1], o[2]);
            edge.refused(-11, Yards.BUSY, "shift", 5, o[0], 2, o[1], o[2]);
            edge.refused(-1, Yards.BUSY, "shift", 6, o[0], 5, o[1], o[2]);
        }
        edge.refused(-11, Yards.BUSY, "shift", 5, 0, 5, 0, 0);
        edge.refused(-12, Yards.BUSY, "shift", 0, 0, 2, 0, 0);
        edge.refused(-12, Yards.BUSY, "shift", 2, 0, 0, 0, 0);
        edge.refused(-12, Yards.BUSY, "shift", 0, 0, 3, 0, 0);
        for (int place : new int[] {-1, 6, Integer.MIN_VALUE, Integer.MAX_VALUE}) {
            edge.refused(-1, Yards.BUSY, "shift", place, 0, 0, 0, 1);
            edge.refused(-1, Yards.BUSY, "shift", 0, 0, place, 0, 1);
        }
        edge.taken(Yards.FULL, "shift", 0, 0, 5, 0, 60);
    }

    private static void taken() {
        edge.says(38, "What a PLACE holds, taken for a RULE of KIND k (0 .. 7), or under it: its KIND. BAD, -11, -12.");
        edge.refused(-1, Yards.BUSY, "taken", -1, 0);
        edge.refused(-1, Yards.BUSY, "taken", 6, 0);
        for (int k : new int[] {-1, 8, Integer.MIN_VALUE, Integer.MAX_VALUE}) {
            edge.refused(-1, Yards.BUSY, "taken", 2, k);
            edge.refused(-1, Yards.BUSY, "taken", 5, k);
            edge.refused(-1, Yards.BUSY, "taken", 0, k);
        }
        int[] mixed = {6, 6, -12, 6, -12, -12, 6, -12};
        for (int k = 0; k < 8; k++) {
            edge.is("mixed taken for " + k, Yards.BUSY.get().taken(2, k), mixed[k]);
            edge.refused(-11, Yards.BUSY, "taken", 5, k);
            edge.refused(-12, Yards.BUSY, "taken", 4, k);
        }
        PushedIn x = rules();
        x.keep(0, 8);
        edge.is("rule 8 of kind 0: its kind, not its number", x.taken(0, 0), 0);
        edge.is("what is above is not under", x.taken(0, 1), -12);
    }

    private static void count() {
        edge.says(39, "How many: 0 COMERS, 1 RULES, 2 bytes on THE TAPE, 3 tellings of AWAY, 4 changes that may be UNDONE, "
                + "5 bodies that ran in the latest act() (all, kept or not). BAD.");
        edge.bounds(Yards.BUSY, 0, 5, "count", HERE);
        int[] empty = {0, 0, 0, 0, 0, 0};
        int[] busy = {5, 8, 4, 1, 3, 9};
        int[] full = {40, 20, 60, 12, 40, 6};
        for (int what = 0; what < 6; what++) {
            edge.is("of nothing, " + what, new PushedIn().count(what), empty[what]);
            edge.is("of some, " + what, Yards.BUSY.get().count(what), busy[what]);
            edge.is("of all, " + what, Yards.FULL.get().count(what), full[what]);
        }
    }
}
