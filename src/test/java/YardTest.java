/** Promises 1 to 10: the yard. */
public final class YardTest {
    private static final Due due = new Due();

    public static void main(String[] args) {
        newObject();
        away();
        matter();
        yard();
        feed();
        comer();
        comersFromRows();
        of();
        starts();
        came();
        cant();
        due.end();
    }

    private static void newObject() {
        PushedIn x = new PushedIn();
        for (int what = 0; what <= 5; what++) {
            due.is("new: count " + what, x.count(what), 0);
        }
        due.is("new: day", x.yard(0, 0), 0);
        due.is("new: slack", x.yard(1, 0), 0);
        due.is("new: lines", x.yard(2, 0), 0);
        due.is("new: changed", x.changed(0, -1), PushedIn.STATE);
        due.is("new: find", x.find(0), PushedIn.STATE);
        due.is("new: undo", x.undo(), PushedIn.STATE);
        due.is("new: redo", x.redo(), PushedIn.STATE);
        for (int m = 0; m < 6; m++) {
            due.is("new: least", x.matter(m, 0, 1), 1);
            due.is("new: most", x.matter(m, 1, 10), 10);
        }
        for (int p = 0; p < 6; p++) {
            due.is("new: place " + p, x.taken(p, 0), -11);
        }
        due.is("new: trace", x.trace(0), PushedIn.BAD);
        due.is("new: of", x.of(0, 0), PushedIn.BAD);
        due.is("VOID", PushedIn.VOID, -2000000000);
    }

    private static void away() {
        PushedIn x = new PushedIn();
        due.is("away: door below", x.away(-1, 0), -1);
        due.is("away: door above", x.away(4, 0), -1);
        due.is("away: below 0", x.away(0, -1), -1);
        due.is("away: below 0 by thousands", x.away(0, -1000), -1);
        due.is("away: last too late", x.away(0, 720), -1);
        due.is("away: both too late", x.away(0, 720720), -1);
        due.is("away: the wrong way about", x.away(0, 10009), -1);
        due.is("away: greatest int", x.away(0, Integer.MAX_VALUE), -1);
        due.is("away: least int", x.away(0, Integer.MIN_VALUE), -1);
        due.is("away: nothing changed", x.count(3), 0);
        due.is("away: one minute", x.away(0, 0), 1);
        due.is("away: all day", x.away(3, 719), 2);
        for (int i = 3; i <= 12; i++) {
            due.is("away: " + i, x.away(1, 719719), i);
        }
        due.is("away: full", x.away(1, 719719), -3);
        due.is("away: bad ahead of full", x.away(4, 0), -1);
        due.is("away: count", x.count(3), 12);
    }

    private static void matter() {
        PushedIn x = new PushedIn();
        due.is("matter below", x.matter(-1, 0, 1), -1);
        due.is("matter above", x.matter(6, 0, 1), -1);
        due.is("matter what below", x.matter(0, -1, 5), -1);
        due.is("matter what above", x.matter(0, 2, 5), -1);
        due.is("matter 0", x.matter(0, 0, 0), -1);
        due.is("matter 100", x.matter(0, 1, 100), -1);
        due.is("least above most", x.matter(0, 0, 11), -1);
        due.is("least as most", x.matter(0, 0, 10), 1);
        due.is("most below least", x.matter(0, 1, 9), -1);
        due.is("most 99", x.matter(0, 1, 99), 10);
        due.is("least 99", x.matter(0, 0, 99), 10);
        due.is("the same", x.matter(0, 0, 99), 99);
        due.is("matter: changes", x.count(4), 3);
        due.is("another matter", x.matter(1, 0, 1), 1);
    }

    private static void yard() {
        PushedIn x = new PushedIn();
        due.is("yard what below", x.yard(-1, 0), -1);
        due.is("yard what above", x.yard(3, 0), -1);
        due.is("day below", x.yard(0, -1), -1);
        due.is("day above", x.yard(0, 4), -1);
        due.is("day 3", x.yard(0, 3), 0);
        due.is("day was 3", x.yard(0, 1), 3);
        due.is("slack below", x.yard(1, -1), -1);
        due.is("slack above", x.yard(1, 31), -1);
        due.is("slack 30", x.yard(1, 30), 0);
        due.is("slack was 30", x.yard(1, 0), 30);
        due.is("lines below", x.yard(2, -1), -1);
        due.is("lines above", x.yard(2, 2), -1);
        due.is("lines 1", x.yard(2, 1), 0);
        due.is("lines were 1", x.yard(2, 0), 1);
        due.is("only slack is a change", x.count(4), 2);
    }

    private static void feed() {
        PushedIn x = new PushedIn();
        due.is("feed 0", x.feed(0, 0), -1);
        due.is("feed 5", x.feed(5, 0), -1);
        due.is("feed below", x.feed(Integer.MIN_VALUE, 0), -1);
        due.is("feed 1", x.feed(1, '5'), 1);
        due.is("lowest first", x.feed(2, '-' | '9' << 8), 3);
        due.is("feed more", x.feed(4, '@' | '0' << 8 | 'm' << 16 | '1' << 24), 7);
        due.is("feed the rest", x.feed(2, 's' | '2' << 8), 9);
        due.is("fed", x.comer(), 0);
        due.is("fed in", x.of(0, 1), 5);
        due.is("fed out", x.of(0, 2), 9);
        due.is("fed sort", x.of(0, 5), 2);
        for (int i = 1; i <= 14; i++) {
            due.is("feed four", x.feed(4, -1), 4 * i);
        }
        due.is("feed to 59", x.feed(3, 0), 59);
        due.is("feed two full", x.feed(2, 0), -3);
        due.is("feed bad ahead of full", x.feed(5, 0), -1);
        due.is("feed to 60", x.feed(1, 0), 60);
        due.is("feed full", x.feed(1, 0), -3);
        due.is("feed count", x.count(2), 60);
    }

    private static void comer() {
        String[] faulty = {
            "", "0", "5", "1", "57", "2", "578", "3", "5781", "3", "x", "0", "-", "0",
            "718", "3", "719", "0", "999", "0", "719-720@0m0s0", "0", "7190", "0",
            "5-", "2", "5-x", "2", "5-5@0m0s0", "2", "5-4@0m0s0", "2", "5-005@", "2", "5-1000@", "5",
            "5-720@", "2", "5-999", "2", "718-719", "7", "5-9x", "3", "5-9@", "4", "5-9@4", "4",
            "5-9@x", "4", "5-9@0", "5", "5-9@00", "5", "5-9@0m", "6", "5-9@0m6", "6", "5-9@0mm", "6",
            "5-9@0m0", "7", "5-9@0m0x", "7", "5-9@0m0s", "8", "5-9@0m0s8", "8", "5-9@0m0s0x", "9",
            "5-9@0m0s00", "9", "5-9@0m0s0#", "10", "5-9@0m0s0#x", "10", "5-9@0m0s0#123", "12",
            "5-9@0m0s0#1x", "11", "5-9@0m0s0l", "10", "5-9@0m0s0l4", "10", "5-9@0m0s0#1l", "12",
            "5-9@0m0s0#1l4", "12", "5-9@0m0s0l1#1", "11", "5-9@0m0s0l11", "11", "5-9@0m0s0##", "10",
            " 5-9@0m0s0", "0", "5 -9@0m0s0", "1", "5-9@0m0s0 ", "9", "5-9M", "3", "5-9@0M0", "5",
        };
        for (int i = 0; i < faulty.length; i += 2) {
            PushedIn x = new PushedIn();
            due.is("comer " + faulty[i], Due.comer(x, faulty[i]), -100 - Integer.parseInt(faulty[i + 1]));
            due.is("the tape is empty behind a fault", x.count(2), 0);
            due.is("no comer of a fault", x.count(0), 0);
        }
        comersTillFull();
    }

    private static void comersTillFull() {
        PushedIn x = new PushedIn();
        String[] good = {"0-1@0m0s0", "718-719@3m5s7", "000-001@0m0s0#0", "5-9@0m0s0#99l3", "05-009@1m2s3l0"};
        int[][] wanted = {
            {0, 0, 1, 0, 0, 0, -1, 0}, {0, 718, 719, 3, 5, 7, -1, 3}, {0, 0, 1, 0, 0, 0, 0, 0},
            {0, 5, 9, 0, 0, 0, 99, 3}, {0, 5, 9, 1, 2, 3, -1, 0},
        };
        for (int i = 0; i < good.length; i++) {
            due.is("comer " + good[i], Due.comer(x, good[i]), i);
            due.is("the tape is empty", x.count(2), 0);
            for (int what = 0; what < 8; what++) {
                due.is(good[i] + " of " + what, x.of(i, what), wanted[i][what]);
            }
        }
        for (int i = good.length; i < 40; i++) {
            due.is("comer " + i, Due.comer(x, "5-9@0m0s0"), i);
        }
        Due.feed(x, "5-9@0m0s0");
        due.is("full", x.comer(), -3);
        due.is("the tape stays", x.count(2), 9);
        Due.feed(x, "x");
        due.is("full ahead of a fault", x.comer(), -3);
        due.is("the tape stays again", x.count(2), 10);
        due.is("forty", x.count(0), 40);
    }

    private static void comersFromRows() {
        PushedIn x = new PushedIn();
        due.is("comers place below", x.comers(-1, 0, 1), -1);
        due.is("comers place above", x.comers(6, 0, 1), -1);
        due.is("comers 0", x.comers(0, 0, 0), -1);
        due.is("comers 13", x.comers(0, 0, 13), -1);
        due.is("comers from nothing", x.comers(0, 0, 1), 0);
        x.rule(0, 0, 0);
        x.keep(1, 0);
        due.is("comers from a rule", x.comers(1, 0, 1), -12);
        due.is("bad ahead of -12", x.comers(1, 0, 0), -1);
        for (int sort = 0; sort < 5; sort++) {
            x.row(1, sort, 5);
            due.is("comers from a row of " + sort, x.comers(1, 0, 1), sort == 1 ? 0 : -12);
        }
        x.yard(0, 3);
        Due.shorts(x, 0, 3, 9, 0, 0, 1, 718, 719, 3, 5, 7, 0, 1, 2, 3, 4, 1, 2);
        due.is("comers from behind the row", x.comers(0, 17, 1), 0);
        due.is("comers at the greatest int", x.comers(0, Integer.MAX_VALUE, 12), 0);
        due.is("comers at the least int", x.comers(0, Integer.MIN_VALUE, 12), 0);
        due.is("comers from -5", x.comers(0, -5, 3), 0);
        due.is("comers within a five", x.comers(0, 13, 1), 0);
        due.is("comers until it ends", x.comers(0, 0, 12), 3);
        due.is("one of them", x.comers(0, 5, 1), 1);
        due.is("its day", x.of(3, 0), 3);
        due.is("its in", x.of(3, 1), 718);
        due.is("its out", x.of(3, 2), 719);
        due.is("its door", x.of(3, 3), 3);
        due.is("its matter", x.of(3, 4), 5);
        due.is("its sort", x.of(3, 5), 7);
        due.is("its number", x.of(3, 6), -1);
        due.is("its line", x.of(3, 7), 3);
        int[][] wrong = {
            {-1, 9, 0, 0, 0}, {9, 9, 0, 0, 0}, {9, 8, 0, 0, 0}, {9, 720, 0, 0, 0}, {3, 9, 4, 0, 0},
            {3, 9, -1, 0, 0}, {3, 9, 0, 6, 0}, {3, 9, 0, -1, 0}, {3, 9, 0, 0, 8}, {3, 9, 0, 0, -1},
        };
        for (int[] five : wrong) {
            Due.shorts(x, 2, five);
            due.is("comers wrong", x.comers(2, 0, 1), 0);
        }
        due.is("none of them came", x.count(0), 4);
        int[] row = new int[60];
        for (int i = 0; i < 60; i += 5) {
            row[i] = 3;
            row[i + 1] = 9;
        }
        Due.shorts(x, 2, row);
        due.is("comers twelve", x.comers(2, 0, 12), 12);
        due.is("comers twelve more", x.comers(2, 0, 12), 12);
        due.is("comers eleven", x.comers(2, 5, 12), 11);
        due.is("comers till full", x.comers(2, 0, 12), 1);
        due.is("comers full", x.comers(2, 0, 12), 0);
        due.is("comers forty", x.count(0), 40);
    }

    private static void of() {
        PushedIn x = Due.yard("3-9@0m0s0", "3-20@1m0s0", "3-9@0m0s0", "1-9@0m0s0", "2-8@0m0s0");
        due.is("of comer below", x.of(-1, 0), -1);
        due.is("of comer above", x.of(5, 0), -1);
        due.is("of what below", x.of(0, -1), -1);
        due.is("of what above", x.of(0, 11), -1);
        due.is("ahead by out", x.of(0, 8), 4);
        due.is("ahead of another door", x.of(1, 8), -1);
        due.is("ahead of like outs by numbers", x.of(2, 8), 0);
        due.is("ahead of like outs by numbers again", x.of(3, 8), 2);
        due.is("the first one", x.of(4, 8), -1);
        x.yard(0, 1);
        Due.comer(x, "3-9@0m0s0");
        due.is("ahead on another day", x.of(5, 8), -1);
        due.is("its day", x.of(5, 0), 1);
    }

    private static void starts() {
        PushedIn x = Due.yard("20-40@0m0s0", "1-36@0m1s0");
        due.is("early by most", x.of(1, 9), 26);
        due.is("late by least", x.of(1, 10), 35);
        due.is("early by the one ahead", x.of(0, 9), 36);
        x.matter(1, 1, 99);
        due.is("early by in", x.of(1, 9), 1);
        x.yard(1, 5);
        due.is("early is 0 at least", x.of(1, 9), 0);
        x.came(1, 12);
        due.is("early by in less slack", x.of(1, 9), 7);
        x.away(1, 30030);
        due.is("away at another door", x.of(1, 9), 7);
        x.away(0, 10012);
        due.is("early behind an absence", x.of(1, 9), 13);
        due.is("late behind an absence", x.of(1, 10), 35);
        x.away(0, 36039);
        due.is("away till out less 1", x.of(0, 9), -2);
        due.is("away till out less 1, late", x.of(0, 10), -2);
        due.is("away from out on", x.of(1, 10), 35);
        x.matter(1, 0, 23);
        due.is("early and late at once", x.of(1, 9), 13);
        due.is("late and early at once", x.of(1, 10), 13);
        x.matter(1, 0, 24);
        due.is("none by least", x.of(1, 9), -2);
        due.is("none by least, late", x.of(1, 10), -2);
        PushedIn y = Due.yard("0-5@0m0s0");
        y.matter(0, 0, 6);
        due.is("no start ahead of minute 0", y.of(0, 10), -2);
        PushedIn z = Due.yard("0-9@0m0s0");
        z.away(0, 8008);
        due.is("away in the last minute", z.of(0, 9), -2);
        PushedIn w = Due.yard("0-9@0m0s0");
        w.away(0, 9012);
        due.is("away behind it", w.of(0, 10), 8);
    }

    private static void came() {
        PushedIn x = Due.yard("3-9@0m0s0");
        due.is("came comer below", x.came(-1, 0), -1);
        due.is("came comer above", x.came(1, 0), -1);
        due.is("came below 0", x.came(0, -1), -1);
        due.is("came at out", x.came(0, 9), -1);
        due.is("came 8", x.came(0, 8), 3);
        due.is("came 0", x.came(0, 0), 8);
        due.is("came the same", x.came(0, 0), 0);
        due.is("came: in", x.of(0, 1), 0);
        due.is("came: changes", x.count(4), 2);
    }

    private static void cant() {
        PushedIn x = Due.yard("3-9@0m0s0");
        due.is("cant day below", x.cant(-1), -1);
        due.is("cant day above", x.cant(4), -1);
        due.is("cant nobody", x.cant(0), -2);
        due.is("cant on an empty day", x.cant(1), -2);
        Due.comer(x, "3-9@0m0s0");
        Due.comer(x, "3-9@0m0s0");
        due.is("cant the first by numbers", x.cant(0), 1);
        x.away(0, 8008);
        due.is("cant the first of all", x.cant(0), 0);
        due.is("cant on another day", x.cant(1), -2);
    }
}
