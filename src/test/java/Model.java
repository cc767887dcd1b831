import java.util.ArrayList;
import java.util.List;
import java.util.regex.Matcher;
import java.util.regex.Pattern;

/**
 * A second reading of the document, written the long way round: starts minute by minute, texts by cutting
 * them at their signs, acts by real classes, rows by real arrays whose exceptions are the refusals.
 * The tests hold the program against it.
 */
final class Model {
    /** What fewest() answers where trying all starts would take too long. */
    static final int TOO_MANY = -999;

    private static final class Comer {
        int id;
        int day;
        int in;
        int out;
        int door;
        int matter;
        int sort;
        int number = -1;
        int line;
        int told = -1;
        List<Integer> starts = new ArrayList<>();

        int early() {
            return starts.isEmpty() ? -2 : starts.get(0);
        }

        int late() {
            return starts.isEmpty() ? -2 : starts.get(starts.size() - 1);
        }

        /** The told start, or the early one; null with neither. */
        Integer start() {
            return told >= 0 ? Integer.valueOf(told) : starts.isEmpty() ? null : starts.get(0);
        }
    }

    // Acts, as the document's kinds say them.
    private static final List<Integer> TRACE = new ArrayList<>();

    private interface Picks {
        int n();

        default int picks(int x) {
            TRACE.add(1);
            return x + n();
        }
    }

    private interface Tells {
        int holds(int x);

        int costs(int x);

        default int tells(int x) {
            TRACE.add(2);
            return holds(x) - costs(1);
        }
    }

    private static class Rule implements Picks, Tells {
        int n;
        int kind;
        int a;
        int b;
        int price;

        public int n() {
            return n;
        }

        public int holds(int x) {
            TRACE.add(10);
            return picks(x) * 2;
        }

        public int costs(int x) {
            TRACE.add(11);
            return x ^ n;
        }
    }

    private static class First extends Rule {
        public int picks(int x) {
            TRACE.add(20);
            return super.picks(x) + 3;
        }
    }

    private static class Number extends Rule {
        public int costs(int x) {
            TRACE.add(30);
            return super.costs(x) * 3;
        }
    }

    private static class Sort extends First {
        public int holds(int x) {
            TRACE.add(40);
            return -super.holds(x);
        }
    }

    private static class Quick extends First {
        public int picks(int x) {
            TRACE.add(50);
            return super.picks(x + 1);
        }
    }

    private static class Last extends Rule {
        public int tells(int x) {
            TRACE.add(60);
            return super.tells(x) ^ 5;
        }
    }

    private static class Mixed extends Sort {
        public int holds(int x) {
            TRACE.add(70);
            return super.holds(x) - costs(2);
        }

        public int picks(int x) {
            TRACE.add(71);
            return super.picks(x) * 2;
        }
    }

    private static class Told extends Rule {
        public int costs(int x) {
            TRACE.add(80);
            return super.costs(x) + picks(1);
        }
    }

    private static final Class<?>[] KINDS = {
        Rule.class, First.class, Number.class, Sort.class, Quick.class, Last.class, Mixed.class, Told.class,
    };

    private static Rule newRule(int kind) {
        switch (kind) {
            case 0: return new Rule();
            case 1: return new First();
            case 2: return new Number();
            case 3: return new Sort();
            case 4: return new Quick();
            case 5: return new Last();
            case 6: return new Mixed();
            default: return new Told();
        }
    }

    private final List<Comer> comers = new ArrayList<>();
    private final List<Rule> rules = new ArrayList<>();
    private final List<int[]> aways = new ArrayList<>();
    private final int[][] minutes = {{1, 1, 1, 1, 1, 1}, {10, 10, 10, 10, 10, 10}};
    private final List<int[]> undo = new ArrayList<>();
    private final List<int[]> redo = new ArrayList<>();
    private final Object[] places = new Object[6];
    private List<Integer> trace = new ArrayList<>();
    private String tape = "";
    private String text;
    private int day;
    private int slack;
    private int lines;

    private boolean ok(int v, int least, int most) {
        return v >= least && v <= most;
    }

    private boolean hasComer(int c) {
        return ok(c, 0, comers.size() - 1);
    }

    private boolean hasRule(int r) {
        return ok(r, 0, rules.size() - 1);
    }

    private List<Comer> on(int d) {
        List<Comer> list = new ArrayList<>();
        for (Comer c : comers) {
            if (c.day == d) {
                list.add(c);
            }
        }
        return list;
    }

    /** Those served at a door of a day, in order. */
    private List<Comer> served(int d, int door) {
        List<Comer> list = on(d);
        list.removeIf(c -> c.door != door);
        list.sort((p, q) -> p.out != q.out ? Integer.compare(p.out, q.out) : Integer.compare(p.id, q.id));
        return list;
    }

    private boolean awayAt(int door, int t) {
        for (int[] a : aways) {
            if (a[0] == door && a[1] <= t && t <= a[2]) {
                return true;
            }
        }
        return false;
    }

    private void work() {
        for (int d = 0; d < 4; d++) {
            for (int door = 0; door < 4; door++) {
                Comer ahead = null;
                for (Comer c : served(d, door)) {
                    c.starts = new ArrayList<>();
                    for (int t = 0; t < 720; t++) {
                        boolean can = t >= c.in - slack && t >= c.out - minutes[1][c.matter]
                                && t <= c.out - minutes[0][c.matter] && (ahead == null || t >= ahead.out);
                        for (int u = t; can && u <= c.out - 1; u++) {
                            can = !awayAt(door, u);
                        }
                        if (can) {
                            c.starts.add(t);
                        }
                    }
                    ahead = c;
                }
            }
        }
    }

    int away(int door, int fromTo) {
        if (!ok(door, 0, 3) || fromTo < 0 || !ok(fromTo / 1000, 0, 719) || !ok(fromTo % 1000, fromTo / 1000, 719)) {
            return -1;
        }
        if (aways.size() == 12) {
            return -3;
        }
        aways.add(new int[] {door, fromTo / 1000, fromTo % 1000});
        work();
        return aways.size();
    }

    private int get(int kind, int which) {
        return kind == 0 ? comers.get(which).in : kind == 3 ? slack : minutes[kind - 1][which];
    }

    private void set(int kind, int which, int v) {
        if (kind == 0) {
            comers.get(which).in = v;
        } else if (kind == 3) {
            slack = v;
        } else {
            minutes[kind - 1][which] = v;
        }
        work();
    }

    private int change(int kind, int which, int v) {
        int was = get(kind, which);
        if (was != v) {
            undo.add(new int[] {kind, which, was, v});
            redo.clear();
            if (undo.size() > 40) {
                undo.remove(0);
            }
            set(kind, which, v);
        }
        return was;
    }

    int matter(int matter, int what, int v) {
        if (!ok(matter, 0, 5) || !ok(what, 0, 1) || !ok(v, 1, 99)
                || what == 0 && v > minutes[1][matter] || what == 1 && v < minutes[0][matter]) {
            return -1;
        }
        return change(1 + what, matter, v);
    }

    int yard(int what, int v) {
        int was = what == 0 ? day : lines;
        if (what == 0 && ok(v, 0, 3)) {
            day = v;
            return was;
        }
        if (what == 1 && ok(v, 0, 30)) {
            return change(3, 0, v);
        }
        if (what == 2 && ok(v, 0, 1)) {
            lines = v;
            return was;
        }
        return -1;
    }

    int feed(int n, int v) {
        if (!ok(n, 1, 4)) {
            return -1;
        }
        if (tape.length() + n > 60) {
            return -3;
        }
        for (int i = 0; i < n; i++) {
            tape += (char) (v >> 8 * i & 255);
        }
        return tape.length();
    }

    private static final Pattern COMER =
            Pattern.compile("([0-9]{1,3})-([0-9]{1,3})@([0-3])m([0-5])s([0-7])(?:#([0-9]{1,2}))?(?:l([0-3]))?");
    private static final Pattern IN = Pattern.compile("([0-9]{1,3}).*", Pattern.DOTALL);
    private static final Pattern IN_OUT = Pattern.compile("([0-9]{1,3})-([0-9]{1,3}).*", Pattern.DOTALL);

    /** -1: none. */
    private int comerFault(String s) {
        int fault = COMER.matcher(s).matches() ? -1 : s.length();
        for (int n = s.length(); n >= 1; n--) {
            Matcher m = COMER.matcher(s.substring(0, n));
            if (!m.matches() && !m.hitEnd()) {
                fault = n - 1;
            }
        }
        Matcher in = IN.matcher(s);
        if (in.matches() && Integer.parseInt(in.group(1)) > 718) {
            return 0;
        }
        Matcher both = IN_OUT.matcher(s);
        if (both.matches()) {
            int out = Integer.parseInt(both.group(2));
            if (out > 719 || out <= Integer.parseInt(both.group(1))) {
                return both.start(2);
            }
        }
        return fault;
    }

    int comer() {
        if (comers.size() == 40) {
            return -3;
        }
        String s = tape;
        tape = "";
        int fault = comerFault(s);
        if (fault >= 0) {
            return -100 - fault;
        }
        Matcher m = COMER.matcher(s);
        if (!m.matches()) {
            throw new IllegalStateException();
        }
        Comer c = new Comer();
        c.in = Integer.parseInt(m.group(1));
        c.out = Integer.parseInt(m.group(2));
        c.door = Integer.parseInt(m.group(3));
        c.matter = Integer.parseInt(m.group(4));
        c.sort = Integer.parseInt(m.group(5));
        c.number = m.group(6) == null ? -1 : Integer.parseInt(m.group(6));
        c.line = m.group(7) == null ? c.door : Integer.parseInt(m.group(7));
        return enter(c);
    }

    private int enter(Comer c) {
        c.day = day;
        c.id = comers.size();
        comers.add(c);
        work();
        return c.id;
    }

    int comers(int place, int i, int n) {
        if (!ok(place, 0, 5) || !ok(n, 1, 12)) {
            return -1;
        }
        if (places[place] != null && !(places[place] instanceof short[])) {
            return -12;
        }
        int came = 0;
        try {
            short[] row = (short[]) places[place];
            for (; came < n && comers.size() < 40; came++) {
                Comer c = new Comer();
                c.in = row[i++];
                c.out = row[i++];
                c.door = row[i++];
                c.matter = row[i++];
                c.sort = row[i++];
                c.line = c.door;
                if (c.in < 0 || c.in >= c.out || c.out > 719 || !ok(c.door, 0, 3) || !ok(c.matter, 0, 5)
                        || !ok(c.sort, 0, 7)) {
                    break;
                }
                enter(c);
            }
        } catch (NullPointerException | ArrayIndexOutOfBoundsException e) {
            return came;
        }
        return came;
    }

    int of(int comer, int what) {
        if (!hasComer(comer) || !ok(what, 0, 10)) {
            return -1;
        }
        Comer c = comers.get(comer);
        List<Comer> row = served(c.day, c.door);
        int at = row.indexOf(c);
        int ahead = at == 0 ? -1 : row.get(at - 1).id;
        return new int[] {c.day, c.in, c.out, c.door, c.matter, c.sort, c.number, c.line, ahead, c.early(), c.late()}[what];
    }

    int came(int comer, int v) {
        return !hasComer(comer) || !ok(v, 0, comers.get(comer).out - 1) ? -1 : change(0, comer, v);
    }

    int cant(int d) {
        if (!ok(d, 0, 3)) {
            return -1;
        }
        for (Comer c : on(d)) {
            if (c.starts.isEmpty()) {
                return c.id;
            }
        }
        return -2;
    }

    private boolean later(Comer p, Comer q) {
        return p.day == q.day && (lines == 0 || p.line == q.line) && p.in - slack > q.in + slack;
    }

    private boolean passes(Comer p, Comer q, int what) {
        if (!later(p, q) || p.starts.isEmpty() || q.starts.isEmpty()) {
            return false;
        }
        int less = 0;
        for (int s : p.starts) {
            for (int t : q.starts) {
                less += s < t ? 1 : 0;
            }
        }
        return what == 0 ? less == p.starts.size() * q.starts.size() : less > 0;
    }

    int passed(int pq, int what) {
        if (pq < 0 || !hasComer(pq / 100) || !hasComer(pq % 100) || !ok(what, 0, 1) || pq / 100 == pq % 100) {
            return -1;
        }
        Comer p = comers.get(pq / 100);
        Comer q = comers.get(pq % 100);
        return p.day != q.day ? -1 : passes(p, q, what) ? 1 : 0;
    }

    int pairs(int d, int what) {
        if (!ok(d, 0, 3) || !ok(what, 0, 1)) {
            return -1;
        }
        int n = 0;
        for (Comer p : on(d)) {
            for (Comer q : on(d)) {
                n += passes(p, q, what) ? 1 : 0;
            }
        }
        return n;
    }

    int start(int comer, int v) {
        if (!hasComer(comer) || !ok(v, -1, 719)) {
            return -1;
        }
        comers.get(comer).told = v;
        return 1;
    }

    int judge(int d, int what) {
        if (!ok(d, 0, 3) || !ok(what, 0, 1)) {
            return -1;
        }
        int n = 0;
        for (Comer c : on(d)) {
            if (what == 0 && c.told >= 0 && !c.starts.contains(c.told)) {
                return c.id;
            }
            n += Long.bitCount(whom(c.id));
        }
        return what == 0 ? -2 : n;
    }

    long whom(int comer) {
        if (!hasComer(comer)) {
            return -1;
        }
        Comer p = comers.get(comer);
        long bits = 0;
        for (Comer q : comers) {
            if (later(p, q) && p.start() != null && q.start() != null && p.start() < q.start()) {
                bits |= 1L << q.id;
            }
        }
        return bits;
    }

    int fewest(long told) {
        List<Comer> chosen = new ArrayList<>();
        long ways = 1;
        for (int i = 0; i < 64; i++) {
            if ((told >> i & 1) != 0) {
                if (!hasComer(i) || chosen.size() == 6 || comers.get(i).starts.isEmpty()) {
                    return -1;
                }
                chosen.add(comers.get(i));
                ways *= comers.get(i).starts.size();
            }
        }
        for (Comer c : chosen) {
            if (c.day != chosen.get(0).day) {
                return -1;
            }
        }
        return chosen.isEmpty() ? -1 : ways > 300000 ? TOO_MANY : least(chosen, 0, new int[chosen.size()]);
    }

    private int least(List<Comer> chosen, int at, int[] starts) {
        int best = Integer.MAX_VALUE;
        if (at == starts.length) {
            int n = 0;
            for (int p = 0; p < at; p++) {
                for (int q = 0; q < at; q++) {
                    n += later(chosen.get(p), chosen.get(q)) && starts[p] < starts[q] ? 1 : 0;
                }
            }
            return n;
        }
        for (int s : chosen.get(at).starts) {
            starts[at] = s;
            best = Math.min(best, least(chosen, at + 1, starts));
        }
        return best;
    }

    int rule(int kind, int ab, int price) {
        if (!ok(kind, 0, 7) || !ok(ab, 0, 9999) || !ok(price, 0, 99)) {
            return -1;
        }
        if (rules.size() == 20) {
            return -3;
        }
        Rule r = newRule(kind);
        r.n = rules.size();
        r.kind = kind;
        r.a = ab / 100;
        r.b = ab % 100;
        r.price = price;
        rules.add(r);
        return r.n;
    }

    private static final String[] LEVELS = {"|", "&", "<=>", "+-", "*/%"};

    private static boolean endsOperand(char c) {
        return c == ')' || Character.isLetterOrDigit(c);
    }

    /** What an E is worth, cut at its last sign of the level; null if it is none. */
    private static Integer expression(String e, int level, int open, int[] names) {
        if (level == LEVELS.length) {
            return operand(e, open, names);
        }
        int depth = 0;
        for (int i = e.length() - 1; i > 0; i--) {
            char c = e.charAt(i);
            depth += c == ')' ? 1 : c == '(' ? -1 : 0;
            if (depth == 0 && LEVELS[level].indexOf(c) >= 0 && endsOperand(e.charAt(i - 1))) {
                // S < S: what stands left of a comparison is no comparison itself.
                Integer x = expression(e.substring(0, i), level == 2 ? 3 : level, open, names);
                Integer y = expression(e.substring(i + 1), level + 1, open, names);
                return x == null || y == null ? null : Integer.valueOf(joined(c, x, y));
            }
        }
        return expression(e, level + 1, open, names);
    }

    private static int joined(char c, int x, int y) {
        switch (c) {
            case '|': return (x != 0 ? 1 : 0) | (y != 0 ? 1 : 0);
            case '&': return (x != 0 ? 1 : 0) & (y != 0 ? 1 : 0);
            case '<': return x < y ? 1 : 0;
            case '=': return x == y ? 1 : 0;
            case '>': return x > y ? 1 : 0;
            case '+': return x + y;
            case '-': return x - y;
            case '*': return x * y;
            case '/': return y == 0 ? 0 : (int) ((long) x / y);
            default: return y == 0 ? 0 : (int) ((long) x % y);
        }
    }

    private static Integer operand(String o, int open, int[] names) {
        if (o.matches("[0-9]{1,4}")) {
            return Integer.valueOf(o);
        }
        if (o.length() == 1 && "wsmlndab".contains(o)) {
            return names["wsmlndab".indexOf(o)];
        }
        if (o.length() < 2 || open == 6) {
            return null;
        }
        String rest = o.substring(1);
        if (o.charAt(0) == '!' || o.charAt(0) == '-') {
            Integer x = operand(rest, open + 1, names);
            return x == null ? null : o.charAt(0) == '-' ? Integer.valueOf(-x) : Integer.valueOf(x == 0 ? 1 : 0);
        }
        if (o.charAt(0) == '(' && o.endsWith(")")) {
            return expression(rest.substring(0, rest.length() - 1), 0, open + 1, names);
        }
        return null;
    }

    /** What a text is worth; null if it is none. */
    static Integer worth(String s, int[] names) {
        Integer worth = null;
        for (String line : s.split(";", -1)) {
            String[] parts = line.split("\\?", -1);
            if (parts.length > 2) {
                return null;
            }
            Integer first = expression(parts[0], 0, 0, names);
            Integer last = expression(parts[parts.length - 1], 0, 0, names);
            if (first == null || last == null) {
                return null;
            }
            if (worth == null && (parts.length == 1 || first != 0)) {
                worth = last;
            }
        }
        return worth == null ? Integer.valueOf(0) : worth;
    }

    private static boolean goesOn(String s) {
        StringBuilder close = new StringBuilder();
        for (int i = 0; i <= 7; i++, close.append(')')) {
            if (worth(s + close, new int[8]) != null || worth(s + "w" + close, new int[8]) != null) {
                return true;
            }
        }
        return false;
    }

    private static int textFault(String s) {
        for (int i = 0; i < s.length(); i++) {
            if (!goesOn(s.substring(0, i + 1))) {
                return i;
            }
        }
        return worth(s, new int[8]) == null ? s.length() : -1;
    }

    int text() {
        String s = tape;
        tape = "";
        int fault = textFault(s);
        if (fault >= 0) {
            return -100 - fault;
        }
        text = s;
        return 1;
    }

    private int score(Rule r, Comer c, int door, int t) {
        int sort = c.sort == r.a ? 1 : 0;
        switch (r.kind) {
            case 2: return c.number < 0 ? 0 : 99 - c.number;
            case 3: return sort;
            case 4: return 99 - minutes[0][c.matter];
            case 5: return c.in;
            case 6: return t - c.in >= r.b ? 2 : sort;
            case 7: return text == null ? 0 : worth(text, new int[] {t - c.in, c.sort, c.matter,
                minutes[0][c.matter], Math.max(0, c.number), c.line == door ? 1 : 0, r.a, r.b});
            default: return 0;
        }
    }

    private int nextOne(Rule r, int d, int door, int t) {
        List<Comer> list = on(d);
        list.removeIf(c -> lines == 1 && c.line != door || c.in > t || c.start() == null || c.start() < t);
        int[] scores = new int[40];
        for (Comer c : list) {
            scores[c.id] = score(r, c, door, t);
        }
        list.sort((p, q) -> scores[p.id] != scores[q.id] ? Integer.compare(scores[q.id], scores[p.id])
                : p.in != q.in ? Integer.compare(p.in, q.in) : Integer.compare(p.id, q.id));
        return list.isEmpty() ? -2 : list.get(0).id;
    }

    int next(int rule, int dd, int t) {
        if (!hasRule(rule) || dd < 0 || !ok(dd / 10, 0, 3) || !ok(dd % 10, 0, 3) || !ok(t, 0, 719)) {
            return -1;
        }
        return nextOne(rules.get(rule), dd / 10, dd % 10, t);
    }

    private List<Integer> broken(Rule r, int d) {
        List<Integer> list = new ArrayList<>();
        for (Comer c : on(d)) {
            if (!c.starts.isEmpty() && nextOne(r, d, c.door, c.start()) != c.id) {
                list.add(c.id);
            }
        }
        return list;
    }

    private int nth(List<Integer> list, int i) {
        return i == -1 ? list.size() : ok(i, 0, list.size() - 1) ? list.get(i) : -1;
    }

    int breaks(int rule, int d, int i) {
        return !hasRule(rule) || !ok(d, 0, 3) ? -1 : nth(broken(rules.get(rule), d), i);
    }

    int kept(int rule) {
        if (!hasRule(rule)) {
            return -1;
        }
        int bits = 0;
        for (int d = 0; d < 4; d++) {
            bits |= !on(d).isEmpty() && broken(rules.get(rule), d).isEmpty() ? 1 << d : 0;
        }
        return bits;
    }

    int find(int what) {
        if (!ok(what, 0, 1)) {
            return -1;
        }
        int best = -1;
        int least = Integer.MAX_VALUE;
        for (Rule r : rules) {
            int sum = r.price;
            for (int d = 0; d < 4; d++) {
                sum += 10 * broken(r, d).size();
            }
            if (sum < least) {
                least = sum;
                best = r.n;
            }
        }
        return best < 0 ? -5 : what == 0 ? best : least;
    }

    int led(int comer) {
        if (!hasComer(comer)) {
            return -1;
        }
        Comer c = comers.get(comer);
        int bits = 0;
        for (Rule r : rules) {
            bits |= c.start() != null && nextOne(r, c.day, c.door, c.start()) == comer ? 1 << r.n : 0;
        }
        return bits;
    }

    int changed(int d, int i) {
        if (!ok(d, 0, 3)) {
            return -1;
        }
        List<Integer> list = new ArrayList<>();
        for (Comer c : on(d)) {
            if (c.line != c.door) {
                list.add(c.id);
            }
        }
        int answer = nth(list, i);
        return answer == -1 ? -1 : lines == 0 ? -5 : answer;
    }

    int idle(int dd, int what) {
        if (dd < 0 || !ok(dd / 10, 0, 3) || !ok(dd % 10, 0, 3) || !ok(what, 0, 1)) {
            return -1;
        }
        List<Comer> row = served(dd / 10, dd % 10);
        List<Integer> idle = new ArrayList<>();
        for (int t = 0; t < 720; t++) {
            boolean gap = false;
            for (int k = 1; k < row.size(); k++) {
                gap |= t >= row.get(k - 1).out && t < row.get(k).late();
            }
            boolean waited = false;
            for (Comer c : on(dd / 10)) {
                waited |= (lines == 0 || c.line == dd % 10) && c.in + slack <= t && !c.starts.isEmpty() && c.early() > t;
            }
            if (gap && waited && !awayAt(dd % 10, t)) {
                idle.add(t);
            }
        }
        return what == 0 ? idle.size() : idle.isEmpty() ? -2 : idle.get(0);
    }

    int seldom(int ds, int seed, int n) {
        if (ds < 0 || !ok(ds / 10, 0, 3) || !ok(ds % 10, 0, 7) || !ok(n, 1, 200)) {
            return -1;
        }
        List<Comer> list = on(ds / 10);
        int[] sorts = new int[list.size()];
        for (int i = 0; i < sorts.length; i++) {
            sorts[i] = list.get(i).sort;
        }
        int now = waited(list, sorts, ds % 10);
        int z = seed;
        int often = 0;
        for (int k = 0; k < n; k++) {
            for (int i = sorts.length - 1; i >= 1; i--) {
                z = z * 1103515245 + 12345;
                int j = (z >>> 8) % (i + 1);
                int s = sorts[i];
                sorts[i] = sorts[j];
                sorts[j] = s;
            }
            often += waited(list, sorts, ds % 10) >= now ? 1 : 0;
        }
        return often;
    }

    private int waited(List<Comer> list, int[] sorts, int sort) {
        int sum = 0;
        for (int i = 0; i < sorts.length; i++) {
            sum += sorts[i] == sort && list.get(i).start() != null ? list.get(i).start() - list.get(i).in : 0;
        }
        return sum;
    }

    int along(int st, int d, int x) {
        if (st < 0 || !ok(st / 10, 0, 7) || !ok(st % 10, 0, 7) || !ok(d, 0, 3) || !ok(x, 0, 99)) {
            return -1;
        }
        int twice = 0;
        for (Comer p : on(d)) {
            for (Comer q : on(d)) {
                boolean near = p != q && p.door == q.door && p.out - q.out <= x && q.out - p.out <= x;
                boolean sorts = p.sort == st / 10 && q.sort == st % 10 || q.sort == st / 10 && p.sort == st % 10;
                twice += near && sorts ? 1 : 0;
            }
        }
        return twice / 2;
    }

    int stand(int d, int what) {
        if (!ok(d, 0, 3) || !ok(what, 0, 1)) {
            return -1;
        }
        int best = -1;
        int door = -1;
        for (int k = 0; k < 4; k++) {
            int sum = 0;
            for (Comer c : served(d, k)) {
                sum += c.late() - c.early();
            }
            if (sum > best) {
                best = sum;
                door = k;
            }
        }
        return what == 0 ? door : best;
    }

    int undo() {
        if (undo.isEmpty()) {
            return -5;
        }
        int[] last = undo.remove(undo.size() - 1);
        redo.add(last);
        set(last[0], last[1], last[2]);
        return undo.size();
    }

    int redo() {
        if (redo.isEmpty()) {
            return -5;
        }
        int[] last = redo.remove(redo.size() - 1);
        undo.add(last);
        set(last[0], last[1], last[3]);
        return redo.size();
    }

    int act(int rule, int act, int x) {
        TRACE.clear();
        int answer = 0;
        if (hasRule(rule) && ok(act, 0, 3)) {
            Rule r = rules.get(rule);
            answer = act == 0 ? r.picks(x) : act == 1 ? r.holds(x) : act == 2 ? r.costs(x) : r.tells(x);
        }
        trace = new ArrayList<>(TRACE);
        return answer;
    }

    int trace(int i) {
        return ok(i, 0, Math.min(24, trace.size()) - 1) ? trace.get(i) : -1;
    }

    int keep(int place, int rule) {
        if (!ok(place, 0, 5) || rule != -1 && !hasRule(rule)) {
            return -1;
        }
        places[place] = rule == -1 ? null : rules.get(rule);
        return 1;
    }

    int row(int place, int sort, int n) {
        if (!ok(place, 0, 5) || !ok(sort, 0, 4) || n > 60) {
            return -1;
        }
        try {
            places[place] = sort == 0 ? new byte[n] : sort == 1 ? new short[n] : sort == 2 ? new int[n]
                    : sort == 3 ? (Object) new long[n] : new boolean[n];
            return 1;
        } catch (NegativeArraySizeException e) {
            return -14;
        }
    }

    int put(int place, int i, long v) {
        if (!ok(place, 0, 5)) {
            return -1;
        }
        if (places[place] == null) {
            return -11;
        }
        try {
            if (places[place] instanceof byte[]) {
                ((byte[]) places[place])[i] = (byte) v;
            } else if (places[place] instanceof short[]) {
                ((short[]) places[place])[i] = (short) v;
            } else if (places[place] instanceof int[]) {
                ((int[]) places[place])[i] = (int) v;
            } else if (places[place] instanceof long[]) {
                ((long[]) places[place])[i] = v;
            } else {
                ((boolean[]) places[place])[i] = v != 0;
            }
            return 1;
        } catch (ClassCastException e) {
            return -12;
        } catch (ArrayIndexOutOfBoundsException e) {
            return -13;
        }
    }

    long element(int place, int i) {
        if (!ok(place, 0, 5) || places[place] == null || places[place] instanceof Rule
                || !ok(i, 0, java.lang.reflect.Array.getLength(places[place]) - 1)) {
            return Long.MIN_VALUE;
        }
        Object v = java.lang.reflect.Array.get(places[place], i);
        return v instanceof Boolean ? (Boolean) v ? 1 : 0 : ((java.lang.Number) v).longValue();
    }

    int shift(int place, int i, int other, int j, int n) {
        if (!ok(place, 0, 5) || !ok(other, 0, 5)) {
            return -1;
        }
        try {
            System.arraycopy(places[place], i, places[other], j, n);
            return n;
        } catch (NullPointerException e) {
            return -11;
        } catch (ArrayStoreException e) {
            return -12;
        } catch (IndexOutOfBoundsException e) {
            return -13;
        }
    }

    int taken(int place, int k) {
        if (!ok(place, 0, 5) || !ok(k, 0, 7)) {
            return -1;
        }
        if (places[place] == null) {
            return -11;
        }
        return KINDS[k].isInstance(places[place]) ? ((Rule) places[place]).kind : -12;
    }

    int count(int what) {
        int[] counts = {comers.size(), rules.size(), tape.length(), aways.size(), undo.size(), trace.size()};
        return ok(what, 0, 5) ? counts[what] : -1;
    }
}
