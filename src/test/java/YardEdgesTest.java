import java.util.function.Supplier;

/** Part 1 of the terms and promises 1 to 10: each sentence at its edges. */
public final class YardEdgesTest {
    private static final Edges edge = new Edges();
    private static final long HERE = Edges.HERE;

    public static void main(String[] args) {
        doorsAndMinutes();
        absences();
        matters();
        comersByTheTape();
        digitsOfInAndOut();
        oneDigitNumbers();
        numberAndLine();
        faults();
        faultsOfNumbers();
        tapesThatEndTooEarly();
        daysOfComers();
        slack();
        orderAtADoor();
        startsByInAndSlack();
        startsByMatter();
        startsByTheOneAhead();
        startsByTheClerk();
        earlyAndLate();
        newObject();
        away();
        matter();
        yard();
        feed();
        comer();
        comers();
        of();
        came();
        cant();
        edge.end();
    }

    /** What a tape becomes in a new yard: a comer's number, or -100 less its fault. */
    private static int tape(String text) {
        return Due.comer(new PushedIn(), text);
    }

    /** A yard of one comer, whose matter may take from 1 to 99 minutes. */
    private static PushedIn long0(String comer) {
        PushedIn x = Due.yard(comer);
        x.matter(0, 1, 99);
        return x;
    }

    private static void early(String what, PushedIn x, int comer, int early, int late) {
        edge.is(what + ", early", x.of(comer, 9), early);
        edge.is(what + ", late", x.of(comer, 10), late);
    }

    // ---- terms

    private static void doorsAndMinutes() {
        edge.says(0, "719. DOORS 0 .. 3 (all there are);");
        edge.bounds(Yards.BUSY, 0, 3, "away", HERE, 5007);
        edge.bounds(Yards.BUSY, 0, 719, "away", 0, HERE);
        edge.bounds(Yards.BUSY, 0, 3, "next", 0, HERE, 20);
        edge.bounds(Yards.BUSY, 0, 719, "next", 0, 0, HERE);
        edge.bounds(Yards.BUSY, 0, 3, "idle", HERE, 0);
        edge.is("a comer at door 3", tape("5-9@3m0s0"), 0);
        edge.is("a comer at door 4", tape("5-9@4m0s0"), -104);
        edge.is("a comer out at 719", tape("0-719@0m0s0"), 0);
        edge.is("a comer out at 720", tape("0-720@0m0s0"), -102);
    }

    private static void absences() {
        edge.says(0, "the clerk of one can be told to be AWAY from a MINUTE to a MINUTE (that one too; "
                + "12 such tellings at most).");
        PushedIn x = long0("0-20@0m0s0");
        x.away(0, 5007);
        early("away from 5 to 7, that one too", x, 0, 8, 19);
        PushedIn y = long0("0-6@0m0s0");
        y.away(0, 5007);
        early("away from 5 on, its last minute", y, 0, -2, -2);
        PushedIn z = long0("0-5@0m0s0");
        z.away(0, 5007);
        early("away from the minute behind it", z, 0, 0, 4);
        PushedIn one = long0("0-20@0m0s0");
        one.away(0, 5005);
        early("away at one minute alone", one, 0, 6, 19);
        PushedIn of = long0("0-20@0m0s0");
        of.away(1, 719);
        early("the clerk of another door", of, 0, 0, 19);
        PushedIn twelve = new PushedIn();
        for (int i = 1; i <= 12; i++) {
            edge.is("telling " + i, twelve.away(0, 719719), i);
        }
        edge.is("telling 13", twelve.away(0, 719719), -3);
        edge.is("twelve tellings", twelve.count(3), 12);
        edge.refused(-3, Yards.FULL, "away", 0, 0);
    }

    private static void matters() {
        edge.says(0, "MATTERS 0 .. 5 take LEAST to MOST minutes (1 .. 99; 1 and 10 at first).");
        edge.bounds(Yards.BUSY, 0, 5, "matter", HERE, 0, 5);
        edge.bounds(Yards.BUSY, 1, 10, "matter", 2, 0, HERE);
        edge.bounds(Yards.BUSY, 1, 99, "matter", 2, 1, HERE);
        edge.is("a comer of matter 6", tape("5-9@0m6s0"), -106);
        for (int m = 0; m < 6; m++) {
            PushedIn x = Due.yard("0-200@0m" + m + "s0");
            early("matter " + m + " at first", x, 0, 190, 199);
            edge.is("least at first", x.matter(m, 0, 1), 1);
            edge.is("most at first", x.matter(m, 1, 99), 10);
            early("with a most of 99", x, 0, 101, 199);
            edge.is("least to 99", x.matter(m, 0, 99), 1);
            early("with a least of 99", x, 0, 101, 101);
            edge.is("least is 99", x.matter(m, 0, 100), -1);
            edge.is("least was 99", x.matter(m, 0, 99), 99);
        }
    }

    private static void comersByTheTape() {
        edge.says(0, "COMERS 0 .. 39, as they come by THE TAPE (at most 60 bytes): IN - OUT @ DOOR m MATTER s SORT, "
                + "perhaps # NUMBER, perhaps l LINE:");
        PushedIn x = new PushedIn();
        for (int i = 0; i < 40; i++) {
            edge.is("comer " + i, Due.comer(x, i + "-719@0m0s0"), i);
        }
        edge.is("the first one", x.of(0, 1), 0);
        edge.is("the last one", x.of(39, 1), 39);
        edge.is("no fortieth", x.of(40, 1), -1);
        edge.is("one more", Due.comer(x, "5-9@0m0s0"), -3);
        PushedIn y = Due.yard("1-9@0m0s0", "2-9@0m0s0#5", "3-9@0m0s0l3", "4-9@0m0s0#5l3");
        int[] numbers = {-1, 5, -1, 5};
        int[] lines = {0, 0, 3, 3};
        for (int i = 0; i < 4; i++) {
            edge.is("its number", y.of(i, 6), numbers[i]);
            edge.is("its line", y.of(i, 7), lines[i]);
        }
        edge.is("the line ahead of the number", tape("4-9@0m0s0l3#5"), -111);
        PushedIn sixty = new PushedIn();
        Due.feed(sixty, "1".repeat(60));
        edge.is("sixty bytes", sixty.count(2), 60);
        edge.is("one byte more", sixty.feed(1, '1'), -3);
        edge.is("sixty bytes as a comer", sixty.comer(), -103);
    }

    private static void digitsOfInAndOut() {
        edge.says(0, "IN, OUT 1 to 3 digits (IN is less than OUT, OUT 719 at most),");
        edge.is("one digit", tape("1-2@0m0s0"), 0);
        edge.is("three digits", tape("001-002@0m0s0"), 0);
        edge.is("no digit of in", tape("-2@0m0s0"), -100);
        edge.is("four digits of in", tape("0001-2@0m0s0"), -103);
        edge.is("no digit of out", tape("1-@0m0s0"), -102);
        edge.is("four digits of out", tape("1-0020@0m0s0"), -105);
        edge.is("in one less than out", tape("99-100@0m0s0"), 0);
        edge.is("in as out", tape("100-100@0m0s0"), -104);
        edge.is("in above out", tape("101-100@0m0s0"), -104);
        edge.is("in 0", tape("0-1@0m0s0"), 0);
        edge.is("in 718, out 719", tape("718-719@0m0s0"), 0);
        edge.is("out 720", tape("718-720@0m0s0"), -104);
        edge.is("in 719, which no out is above", tape("719-719@0m0s0"), -100);
    }

    private static void oneDigitNumbers() {
        edge.says(0, "DOOR 0 .. 3, MATTER 0 .. 5, SORT 0 .. 7,");
        String[] texts = {"5-9@", "m0s0", "5-9@0m", "s0", "5-9@0m0s", ""};
        int[] most = {3, 5, 7};
        for (int i = 0; i < 3; i++) {
            String ahead = texts[2 * i];
            String behind = texts[2 * i + 1];
            edge.is(ahead + "0", tape(ahead + "0" + behind), 0);
            edge.is(ahead + most[i], tape(ahead + most[i] + behind), 0);
            for (char sign : new char[] {(char) ('1' + most[i]), '9', '/', ':', '-'}) {
                edge.is(ahead + sign, tape(ahead + sign + behind), -100 - ahead.length());
            }
            edge.is(ahead + "00", tape(ahead + "00" + behind), -101 - ahead.length());
        }
    }

    private static void numberAndLine() {
        edge.says(0, "NUMBER 1 or 2 digits (without: none), LINE (0 .. 3: in which it stood; without: DOOR). No blanks.");
        String[] texts = {"5-9@2m0s0", "5-9@2m0s0#0", "5-9@2m0s0#00", "5-9@2m0s0#99", "5-9@2m0s0l0", "5-9@2m0s0l3"};
        int[] numbers = {-1, 0, 0, 99, -1, -1};
        int[] lines = {2, 2, 2, 2, 0, 3};
        for (int i = 0; i < texts.length; i++) {
            PushedIn x = Due.yard(texts[i]);
            edge.is(texts[i] + ", number", x.of(0, 6), numbers[i]);
            edge.is(texts[i] + ", line", x.of(0, 7), lines[i]);
        }
        edge.is("a number of no digit", tape("5-9@2m0s0#l1"), -110);
        edge.is("a number of three digits", tape("5-9@2m0s0#100"), -112);
        edge.is("line 4", tape("5-9@2m0s0l4"), -110);
        edge.is("a line of two digits", tape("5-9@2m0s0l00"), -111);
        String whole = "5-9@2m0s0#12l3";
        for (int at = 0; at <= whole.length(); at++) {
            String blank = whole.substring(0, at) + " " + whole.substring(at);
            edge.is("a blank at " + at, tape(blank), -100 - at);
        }
    }

    private static void faults() {
        edge.says(0, "FAULT: the place (from 0) of the first byte with which no text goes on");
        String whole = "1-345@0m1s2#34l1";
        edge.is(whole, tape(whole), 0);
        for (int sign : new int[] {'x', ' ', 0, 127, 128, 255}) {
            for (int at = 0; at < whole.length(); at++) {
                String text = whole.substring(0, at) + (char) sign + whole.substring(at + 1);
                edge.is("byte " + sign + " at " + at, tape(text), -100 - at);
            }
            edge.is("byte " + sign + " behind it", tape(whole + (char) sign), -116);
        }
        edge.is("the first of two faults", tape("1-x@x"), -102);
        edge.is("a byte that goes on elsewhere", tape("1-2@0s1m2"), -105);
    }

    private static void faultsOfNumbers() {
        edge.says(0, "(a number that may not be: its first digit; of an OUT that isn't above IN: OUT's);");
        edge.is("in 719", tape("719-1@"), -100);
        edge.is("in 999", tape("999"), -100);
        edge.is("in 718", tape("718-719@"), -108);
        edge.is("out 720", tape("5-720@0m0s0"), -102);
        edge.is("out 999", tape("05-999@0m0s0"), -103);
        edge.is("out as in", tape("100-100@0m0s0"), -104);
        edge.is("out below in, of fewer digits", tape("100-99@0m0s0"), -104);
        edge.is("out below in, of noughts", tape("5-004@0m0s0"), -102);
        edge.is("out below in, and then a fault", tape("5-4x"), -102);
        edge.is("out below in, where the tape ends", tape("5-3"), -102);
    }

    private static void tapesThatEndTooEarly() {
        edge.says(0, "OUT's); the length, if it ends too early.");
        String whole = "1-345@0m1s2#34l1";
        for (int n = 0; n <= whole.length(); n++) {
            boolean isOne = n == 11 || n == 13 || n == 14 || n == 16;
            edge.is("the first " + n + " bytes", tape(whole.substring(0, n)), isOne ? 0 : -100 - n);
        }
    }

    private static void daysOfComers() {
        edge.says(0, "Each is of the DAY (0 .. 3, told, 0 at first) that is set as it comes.");
        PushedIn x = Due.yard("5-9@0m0s0");
        x.yard(0, 3);
        Due.comer(x, "5-9@0m0s0");
        Due.shorts(x, 0, 5, 9, 1, 0, 0);
        x.comers(0, 0, 1);
        x.yard(0, 4);
        Due.comer(x, "5-9@2m0s0");
        x.yard(0, 0);
        int[] days = {0, 3, 3, 3};
        for (int i = 0; i < 4; i++) {
            edge.is("day of " + i, x.of(i, 0), days[i]);
        }
        edge.bounds(Yards.BUSY, 0, 3, "yard", 0, HERE);
    }

    private static void slack() {
        edge.says(0, "SLACK (0 .. 30, told; 0 at first): it came in from IN less SLACK (0 at least) to IN and SLACK.");
        edge.bounds(Yards.BUSY, 0, 30, "yard", 1, HERE);
        edge.is("slack at first", new PushedIn().yard(1, 30), 0);
        int[] ins = {0, 29, 30, 31};
        int[] earlies = {0, 0, 0, 1};
        for (int i = 0; i < ins.length; i++) {
            PushedIn x = long0(ins[i] + "-60@0m0s0");
            early("in at " + ins[i], x, 0, ins[i], 59);
            x.yard(1, 30);
            early("in at " + ins[i] + ", slack 30", x, 0, earlies[i], 59);
        }
        // It waits at door 0 from in and slack on: 40 is the last minute ahead of its early start.
        PushedIn y = Due.yard("1-20@0m0s0", "30-51@0m0s0");
        y.yard(1, 10);
        edge.is("waits from 40 on", y.idle(0, 1), 40);
        y.yard(1, 11);
        edge.is("can have come in too late to wait", y.idle(0, 1), -2);
    }

    private static void orderAtADoor() {
        edge.says(0, "AT A DOOR of a DAY COMERS are served one at a time, in order of OUT (of like ones by numbers), "
                + "each till OUT. The one AHEAD: the one before it there.");
        PushedIn x = Due.yard("1-30@0m0s0", "1-20@0m0s0", "1-30@0m0s0", "1-19@0m0s0", "1-25@1m0s0");
        x.yard(0, 1);
        Due.comer(x, "1-29@0m0s0");
        int[] ahead = {1, 3, 0, -1, -1, -1};
        for (int i = 0; i < ahead.length; i++) {
            edge.is("ahead of " + i, x.of(i, 8), ahead[i]);
        }
        early("one at a time, till out of the one ahead", x, 1, 19, 19);
        early("of like ones none is left", x, 2, -2, -2);
        x.came(3, 18);
        edge.is("not in order of in", x.of(3, 8), -1);
    }

    private static void startsByInAndSlack() {
        edge.says(0, "A START of a COMER: a MINUTE from IN less SLACK on,");
        PushedIn x = long0("15-20@0m0s0");
        early("from in on", x, 0, 15, 19);
        x.yard(1, 3);
        early("from in less slack on", x, 0, 12, 19);
        x.yard(1, 16);
        early("a minute is 0 at least", x, 0, 0, 19);
        early("in at out less 1", long0("19-20@0m0s0"), 0, 19, 19);
        PushedIn y = long0("19-20@0m0s0");
        y.matter(0, 0, 2);
        early("in too late for the least", y, 0, -2, -2);
    }

    private static void startsByMatter() {
        edge.says(0, "from OUT less MOST of its MATTER to OUT less LEAST,");
        PushedIn x = Due.yard("0-50@0m3s0");
        x.matter(3, 1, 20);
        x.matter(3, 0, 7);
        early("from out less 20 to out less 7", x, 0, 30, 43);
        x.matter(2, 1, 40);
        x.matter(2, 0, 40);
        early("of its own matter", x, 0, 30, 43);
        x.matter(3, 0, 20);
        early("least as most", x, 0, 30, 30);
        PushedIn y = Due.yard("0-10@0m0s0");
        early("most as out", y, 0, 0, 9);
        y.matter(0, 0, 10);
        early("least as out", y, 0, 0, 0);
        y.matter(0, 1, 11);
        y.matter(0, 0, 11);
        early("least above out", y, 0, -2, -2);
    }

    private static void startsByTheOneAhead() {
        edge.says(0, "not before OUT of the one AHEAD,");
        for (int ahead = 15; ahead <= 20; ahead++) {
            PushedIn x = long0("15-20@0m0s0");
            Due.comer(x, "1-" + ahead + "@0m0s0");
            boolean isAhead = ahead < 20;
            early("the one ahead out at " + ahead, x, 0, isAhead ? ahead : 15, 19);
        }
        PushedIn y = Due.yard("1-20@0m0s0", "15-20@0m0s0");
        early("the one ahead out at the same minute", y, 1, -2, -2);
        PushedIn z = long0("15-20@0m0s0");
        Due.comer(z, "1-18@1m0s0");
        early("one at another door", z, 0, 15, 19);
    }

    private static void startsByTheClerk() {
        edge.says(0, "such that the clerk is not AWAY at any MINUTE from it to OUT less 1.");
        int[] absences = {13014, 14015, 15015, 15018, 18018, 19019, 19719, 20020, 20719, 719};
        int[] earlies = {15, 16, 16, 19, 19, -2, -2, 15, 15, -2};
        for (int i = 0; i < absences.length; i++) {
            PushedIn x = long0("15-20@0m0s0");
            x.away(0, absences[i]);
            early("away " + absences[i], x, 0, earlies[i], earlies[i] < 0 ? -2 : 19);
        }
        PushedIn y = long0("15-20@0m0s0");
        y.away(0, 17017);
        y.away(0, 15015);
        early("the later of two absences", y, 0, 18, 19);
    }

    private static void earlyAndLate() {
        edge.says(0, "EARLY: the first START, LATE: the last one; NONE: there is no START (CAN'T: the first COMER of a "
                + "DAY, by numbers, that has none).");
        early("ten starts", Due.yard("0-30@0m0s0"), 0, 20, 29);
        early("one start", Due.yard("29-30@0m0s0"), 0, 29, 29);
        PushedIn x = Due.yard("1-30@1m0s0", "1-30@0m0s0", "1-30@0m0s0", "1-30@0m0s0");
        early("no start", x, 2, -2, -2);
        edge.is("the first by numbers", x.cant(0), 2);
        x.away(1, 29029);
        edge.is("the very first", x.cant(0), 0);
        edge.is("of another day", x.cant(1), -2);
    }

    // ---- promises

    private static void newObject() {
        edge.says(1, "No comers, no rules; lines are one for all.");
        PushedIn x = new PushedIn();
        for (int what = 0; what <= 5; what++) {
            edge.is("count " + what, x.count(what), 0);
        }
        edge.is("no comer 0", x.of(0, 0), -1);
        edge.is("no rule 0", x.kept(0), -1);
        edge.is("lines one for all", x.changed(0, -1), -5);
        edge.is("lines were 0", x.yard(2, 1), 0);
        for (int day = 0; day < 4; day++) {
            edge.is("cant", x.cant(day), -2);
            edge.is("pairs", x.pairs(day, 1), 0);
            edge.is("judge", x.judge(day, 0), -2);
            edge.is("judge passes", x.judge(day, 1), 0);
            edge.is("idle", x.idle(10 * day, 0), 0);
            edge.is("stand", x.stand(day, 1), 0);
            edge.is("changed", x.changed(day, -1), 0);
        }
    }

    private static void away() {
        edge.says(2, "AWAY at a DOOR: how many tellings there are. BAD, FULL.");
        PushedIn x = new PushedIn();
        edge.is("the first, at door 0", x.away(0, 5007), 1);
        edge.is("the second, at door 3: of all doors", x.away(3, 5007), 2);
        edge.is("the same again", x.away(3, 5007), 3);
        edge.refused(-1, Yards.FULL, "away", 4, 0);
        edge.refused(-1, Yards.FULL, "away", 0, 720);
        edge.refused(-3, Yards.FULL, "away", 3, 719719);
        edge.says(2, "fromTo: 1000 times the first MINUTE and the last one.");
        for (int fromTo : new int[] {0, 719, 718719, 719719, 5005}) {
            edge.taken(Yards.BUSY, "away", 0, fromTo);
        }
        int[] wrong = {-1, 720, 999, 719720, 720720, 720719, 1000, 719718, 5004, -1000, -719, 1000000,
            Integer.MIN_VALUE, Integer.MAX_VALUE};
        for (int fromTo : wrong) {
            edge.refused(-1, Yards.BUSY, "away", 0, fromTo);
        }
    }

    private static void matter() {
        edge.says(3, "LEAST (what 0), MOST (1) of a MATTER becomes v: what it was. BAD (LEAST above MOST).");
        edge.bounds(Yards.BUSY, 0, 5, "matter", HERE, 1, 20);
        edge.bounds(Yards.BUSY, 0, 1, "matter", 0, HERE, 20);
        PushedIn x = new PushedIn();
        edge.is("least to 10, as most", x.matter(0, 0, 10), 1);
        edge.is("most to 9, below least", x.matter(0, 1, 9), -1);
        edge.is("most stays", x.matter(0, 1, 10), 10);
        edge.is("least to 11, above most", x.matter(0, 0, 11), -1);
        edge.is("least stays", x.matter(0, 0, 2), 10);
        edge.is("most to 2, as least", x.matter(0, 1, 2), 10);
        edge.is("most to 1, below least", x.matter(0, 1, 1), -1);
        edge.is("another matter's least", x.matter(1, 0, 10), 1);
        edge.refused(-1, Yards.BUSY, "matter", 1, 1, 3);
        edge.refused(-1, Yards.BUSY, "matter", 0, 0, 31);
        edge.refused(-1, Yards.BUSY, "matter", 0, 0, 0);
        edge.refused(-1, Yards.BUSY, "matter", 0, 1, 100);
    }

    private static void yard() {
        edge.says(4, "DAY (what 0: 0 .. 3), SLACK (1: 0 .. 30), lines (2: 0 one for all, 1 one a door) becomes v: "
                + "what it was. BAD.");
        edge.bounds(Yards.BUSY, 0, 2, "yard", HERE, 0);
        int[] most = {3, 30, 1};
        for (int what = 0; what < 3; what++) {
            edge.bounds(Yards.BUSY, 0, most[what], "yard", what, HERE);
            PushedIn x = new PushedIn();
            edge.is("at first", x.yard(what, most[what]), 0);
            edge.is("beyond", x.yard(what, most[what] + 1), -1);
            edge.is("what it was", x.yard(what, 0), most[what]);
            edge.is("what it was then", x.yard(what, 0), 0);
        }
    }

    private static void feed() {
        edge.says(5, "n (1 .. 4) bytes come to THE TAPE, the lowest of v first: how many it has. BAD, FULL.");
        edge.bounds(Yards.BUSY, 1, 4, "feed", HERE, 0);
        PushedIn x = new PushedIn();
        edge.is("two of four bytes", x.feed(2, 0x7f7f2d35), 2);
        edge.is("four", x.feed(4, '9' | '@' << 8 | '3' << 16 | 'm' << 24), 6);
        edge.is("three", x.feed(3, '1' | 's' << 8 | '7' << 16), 9);
        edge.is("became a comer", x.comer(), 0);
        edge.is("its in", x.of(0, 1), 5);
        edge.is("its out", x.of(0, 2), 9);
        edge.is("its sort", x.of(0, 5), 7);
        for (int n = 1; n <= 4; n++) {
            int last = n;
            Supplier<PushedIn> almost = () -> tapeOf(60 - last);
            edge.is("to sixty by " + n, almost.get().feed(n, 0), 60);
            Supplier<PushedIn> over = () -> tapeOf(61 - last);
            edge.refused(-3, over, "feed", n, 0x35353535);
        }
        edge.refused(-1, Yards.FULL, "feed", 0, 0);
        edge.refused(-1, Yards.FULL, "feed", 5, 0);
        edge.refused(-3, Yards.FULL, "feed", 1, 0);
    }

    private static PushedIn tapeOf(int bytes) {
        PushedIn x = new PushedIn();
        Due.feed(x, "w".repeat(bytes));
        return x;
    }

    private static void comer() {
        edge.says(6, "THE TAPE becomes a COMER: its number; -100 less its FAULT; THE TAPE is empty then.");
        PushedIn x = new PushedIn();
        edge.is("an empty tape", x.comer(), -100);
        edge.is("a comer", Due.comer(x, "5-9@0m0s0"), 0);
        edge.is("the tape is empty then", x.count(2), 0);
        edge.is("an empty tape again", x.comer(), -100);
        edge.is("a fault", Due.comer(x, "5-9@0m0s8"), -108);
        edge.is("the tape is empty then, too", x.count(2), 0);
        edge.is("no comer of a fault", x.count(0), 1);
        edge.is("the next number", Due.comer(x, "5-9@0m0s0"), 1);
        edge.is("the greatest fault", Due.comer(x, "5-9@0m0s0#12l3" + "x".repeat(46)), -114);
        edge.says(6, "FULL (ahead of all; it stays).");
        edge.refused(-3, Yards.FULL, "comer");
        edge.refused(-3, YardEdgesTest::fortyComers, "comer");
        PushedIn full = fortyComers();
        Due.feed(full, "x");
        edge.is("full, and a fault", full.comer(), -3);
        edge.is("it stays", full.count(2), 1);
        edge.is("it becomes a text's fault", full.text(), -100);
    }

    private static PushedIn fortyComers() {
        PushedIn x = new PushedIn();
        Yards.comers(x, 40);
        return x;
    }

    private static void comers() {
        edge.says(7, "COMERS FROM A ROW at a PLACE, from place i on, n (1 .. 12) of them: how many came.");
        PushedIn x = new PushedIn();
        Yards.comers(x, 28);
        edge.is("twenty-eight came", x.count(0), 28);
        Due.shorts(x, 0, 9, 5, 9, 1, 2, 3, 6, 9, 1, 2, 4);
        edge.is("from place 1 on, one", x.comers(0, 1, 1), 1);
        edge.is("its in", x.of(28, 1), 5);
        edge.is("from place 1 on, twelve: two came", x.comers(0, 1, 12), 2);
        edge.is("the second's sort", x.of(30, 5), 4);
        edge.is("from place 6 on", x.comers(0, 6, 2), 1);
        edge.says(7, "BAD, -12 (no ROW of shorts; a PLACE that holds nothing is missing).");
        edge.bounds(Yards.BUSY, 0, 5, "comers", HERE, 0, 1);
        edge.bounds(Yards.BUSY, 1, 12, "comers", 0, 0, HERE);
        edge.is("a place that holds nothing", new PushedIn().comers(5, 0, 1), 0);
        for (int sort = 0; sort < 5; sort++) {
            PushedIn y = new PushedIn();
            y.row(0, sort, 60);
            edge.is("a row of sort " + sort, y.comers(0, 0, 1), sort == 1 ? 0 : -12);
        }
        edge.refused(-12, Yards.BUSY, "comers", 1, 0, 1);
        edge.refused(-12, Yards.BUSY, "comers", 2, 0, 1);
        edge.refused(-12, Yards.BUSY, "comers", 3, -1, 12);
        edge.refused(-1, Yards.BUSY, "comers", 2, 0, 0);
        edge.refused(-1, Yards.BUSY, "comers", 2, 0, 13);
        edge.refused(-1, Yards.BUSY, "comers", -1, 0, 1);
        edge.refused(-1, Yards.BUSY, "comers", 6, 0, 1);
        edge.refused(0, Yards.BUSY, "comers", 5, 0, 1);
        edge.refused(0, Yards.FULL, "comers", 1, 0, 12);
    }

    private static void of() {
        edge.says(8, "Of a COMER: 0 DAY, 1 IN, 2 OUT, 3 DOOR, 4 MATTER, 5 SORT, 6 NUMBER (-1), 7 LINE, 8 the one AHEAD "
                + "(-1), 9 EARLY, 10 LATE (-2 both: NONE). BAD.");
        PushedIn x = new PushedIn();
        x.yard(0, 2);
        Due.comer(x, "1-30@3m4s5#67l1");
        Due.comer(x, "2-30@3m5s6");
        int[][] wanted = {{2, 1, 30, 3, 4, 5, 67, 1, -1, 20, 29}, {2, 2, 30, 3, 5, 6, -1, 3, 0, -2, -2}};
        for (int c = 0; c < 2; c++) {
            for (int what = 0; what <= 10; what++) {
                edge.is("of " + c + ", " + what, x.of(c, what), wanted[c][what]);
            }
        }
        edge.bounds(Yards.BUSY, 0, 4, "of", HERE, 1);
        edge.bounds(Yards.BUSY, 0, 10, "of", 1, HERE);
        edge.bounds(Yards.FULL, 0, 39, "of", HERE, 2);
        edge.refused(-1, Yards.EMPTY, "of", 0, 0);
    }

    private static void came() {
        edge.says(9, "IN of a COMER becomes v (less than OUT): what it was. BAD.");
        PushedIn x = Due.yard("5-9@0m0s0");
        edge.is("to out less 1", x.came(0, 8), 5);
        edge.is("to 0", x.came(0, 0), 8);
        edge.is("the same", x.came(0, 0), 0);
        edge.is("in", x.of(0, 1), 0);
        PushedIn y = Due.yard("5-719@0m0s0");
        edge.is("to 718", y.came(0, 718), 5);
        edge.is("to 719", y.came(0, 719), -1);
        edge.bounds(Yards.BUSY, 0, 4, "came", HERE, 1);
        edge.bounds(Yards.BUSY, 0, 39, "came", 0, HERE);
        edge.bounds(Yards.BUSY, 0, 8, "came", 4, HERE);
        edge.refused(-1, Yards.EMPTY, "came", 0, 0);
    }

    private static void cant() {
        edge.says(10, "CAN'T of a DAY; NOT. BAD.");
        edge.bounds(Yards.BUSY, 0, 3, "cant", HERE);
        edge.is("nobody came", new PushedIn().cant(0), -2);
        PushedIn x = Yards.BUSY.get();
        edge.is("nobody on day 0", x.cant(0), -2);
        edge.is("4 on day 1", x.cant(1), 4);
        edge.is("day 3", x.cant(3), -2);
        PushedIn y = new PushedIn();
        y.yard(0, 3);
        Due.comer(y, "5-9@0m0s0");
        y.away(0, 8008);
        edge.is("0 on day 3", y.cant(3), 0);
    }
}
