import java.lang.reflect.Method;
import java.util.Random;

/** Calls of the class by name, with arguments drawn from a seed, for the tests that go by random runs. */
final class Calls {
    static final String[] NAMES = {
        "away", "matter", "yard", "feed", "comer", "comers", "of", "came", "cant", "passed", "pairs", "start",
        "judge", "whom", "fewest", "rule", "text", "next", "breaks", "kept", "find", "led", "changed", "idle",
        "seldom", "along", "stand", "undo", "redo", "act", "trace", "keep", "row", "put", "element", "shift",
        "taken", "count",
    };

    private final Random random;

    Calls(long seed) {
        random = new Random(seed);
    }

    int below(int n) {
        return random.nextInt(n);
    }

    String anyName() {
        return NAMES[below(NAMES.length)];
    }

    static Method method(Class<?> type, String name) {
        for (Method m : type.getDeclaredMethods()) {
            if (m.getName().equals(name) && !m.isSynthetic() && !java.lang.reflect.Modifier.isPrivate(m.getModifiers())) {
                m.setAccessible(true);
                return m;
            }
        }
        throw new IllegalStateException(name);
    }

    static long answer(Object on, String name, long[] args) throws ReflectiveOperationException {
        Method m = method(on.getClass(), name);
        Object[] given = new Object[args.length];
        for (int i = 0; i < given.length; i++) {
            given[i] = m.getParameterTypes()[i] == long.class ? (Object) args[i] : (Object) (int) args[i];
        }
        return ((Number) m.invoke(on, given)).longValue();
    }

    static String shown(String name, long[] args) {
        return name + java.util.Arrays.toString(args);
    }

    /** From -1 to n: mostly as it may be. */
    private int about(int n) {
        return below(20) == 0 ? (below(2) == 0 ? -1 : n) : below(Math.max(n, 1));
    }

    private int pair(int ten, int a, int b) {
        return ten * about(a) + about(b);
    }

    private long few(int comers) {
        long bits = 0;
        int n = 1 + below(6) + (below(20) == 0 ? 1 : 0);
        for (int i = 0; i < n; i++) {
            bits |= 1L << about(comers + 1);
        }
        return bits;
    }

    private int row(int sort) {
        return sort == 0 ? 1 : about(5);
    }

    /** Arguments that are mostly as they may be in a yard of so many comers and rules. */
    long[] sensible(String name, int comers, int rules) {
        int day = below(3) == 0 ? about(4) : 0;
        switch (name) {
            case "away": return new long[] {about(4), below(10) == 0 ? below(800000) : awayTime()};
            case "matter": return new long[] {about(6), about(2), below(3) == 0 ? about(100) : 1 + below(14)};
            case "yard": return yardArgs();
            case "feed": return new long[] {about(5), random.nextInt()};
            case "comers": return new long[] {about(6), about(12), 1 + about(12)};
            case "of": return new long[] {about(comers), about(11)};
            case "came": return new long[] {about(comers), about(120)};
            case "passed": return new long[] {pair(100, comers, comers), about(2)};
            case "start": return new long[] {about(comers), below(4) == 0 ? -1 : about(150)};
            case "whom": case "led": return new long[] {about(comers)};
            case "fewest": return new long[] {few(comers)};
            case "rule": return new long[] {about(8), below(10) == 0 ? about(10000) : 100 * below(8) + below(40), about(100)};
            case "next": return new long[] {about(rules), 10 * day + about(4), about(150)};
            case "breaks": return new long[] {about(rules), day, below(6) - 1};
            case "kept": return new long[] {about(rules)};
            case "find": return new long[] {about(2)};
            case "changed": return new long[] {day, below(5) - 1};
            case "idle": return new long[] {10 * day + about(4), about(2)};
            case "seldom": return new long[] {10 * day + about(8), random.nextInt(), below(2) == 0 ? 1 + about(20) : about(201)};
            case "along": return new long[] {pair(10, 4, 4), day, below(2) == 0 ? below(20) : about(100)};
            case "act": return new long[] {about(rules), about(4), random.nextInt()};
            case "trace": return new long[] {about(9)};
            case "keep": return new long[] {about(6), below(3) == 0 ? -1 : about(rules)};
            case "row": return new long[] {about(6), row(below(2)), below(4) == 0 ? about(61) : about(13)};
            case "put": return new long[] {about(6), about(13), putValue()};
            case "element": return new long[] {about(6), about(13)};
            case "shift": return new long[] {about(6), about(8), about(6), about(8), about(7)};
            case "taken": return new long[] {about(6), about(8)};
            case "count": return new long[] {about(6)};
            case "cant": return new long[] {day};
            case "pairs": case "judge": case "stand": return new long[] {day, about(2)};
            default: return new long[0];
        }
    }

    private int awayTime() {
        int from = below(140);
        return 1000 * from + from + below(6);
    }

    private long[] yardArgs() {
        int what = about(3);
        return new long[] {what, what == 0 ? about(4) : what == 1 ? about(below(2) == 0 ? 31 : 5) : about(2)};
    }

    private long putValue() {
        int kind = below(4);
        return kind == 0 ? random.nextLong() : kind == 1 ? below(60) : below(6);
    }

    /** Any numbers at all, the edges of ints and longs among them. */
    long[] wild(String name) {
        long[] args = new long[method(PushedIn.class, name).getParameterCount()];
        for (int i = 0; i < args.length; i++) {
            int kind = below(8);
            args[i] = kind == 0 ? Integer.MIN_VALUE : kind == 1 ? Integer.MAX_VALUE : kind == 2 ? random.nextInt()
                    : kind == 3 ? below(2000) - 1000 : kind == 4 ? random.nextLong() : below(9) - 2;
            if (method(PushedIn.class, name).getParameterTypes()[i] == int.class) {
                args[i] = (int) args[i];
            }
        }
        return args;
    }

    String comerText() {
        int in = below(5) == 0 ? below(730) : below(100);
        int out = in + (below(30) == 0 ? -1 + below(3) : 1 + below(60));
        String s = in + "-" + out + "@" + below(below(20) == 0 ? 5 : 3) + "m" + below(below(20) == 0 ? 7 : 4)
                + "s" + below(below(20) == 0 ? 9 : 4);
        s += below(3) == 0 ? "#" + below(below(10) == 0 ? 200 : 30) : "";
        s += below(3) == 0 ? "l" + below(below(10) == 0 ? 5 : 3) : "";
        return below(8) == 0 ? spoilt(s, "0123456789-@ms#l") : s;
    }

    String ruleText() {
        StringBuilder s = new StringBuilder();
        int lines = 1 + below(3);
        for (int i = 0; i < lines; i++) {
            s.append(i > 0 ? ";" : "").append(below(2) == 0 ? expression(0) + "?" : "").append(expression(0));
        }
        String text = below(4) == 0 ? spoilt(s.toString(), "wsmlndab019()!-+*/%<=>&|?;") : s.toString();
        return text.length() > 60 ? text.substring(0, 60) : text;
    }

    private String expression(int depth) {
        int kind = below(depth > 3 ? 2 : 7);
        if (kind == 0) {
            return "" + below(below(3) == 0 ? 10000 : 5);
        }
        if (kind <= 2) {
            return "" + "wsmlndab".charAt(below(8));
        }
        if (kind == 3) {
            return "(" + expression(depth + 1) + ")";
        }
        if (kind == 4) {
            return (below(2) == 0 ? "!" : "-") + expression(depth + 1);
        }
        return expression(depth + 1) + "|&<=>+-*/%".charAt(below(10)) + expression(depth + 1);
    }

    private String spoilt(String s, String signs) {
        int at = below(s.length() + 1);
        String sign = below(10) == 0 ? "" + (char) below(256) : "" + signs.charAt(below(signs.length()));
        switch (below(4)) {
            case 0: return s.substring(0, at);
            case 1: return s.substring(0, at) + sign + s.substring(at);
            case 2: return at < s.length() ? s.substring(0, at) + s.substring(at + 1) : s;
            default: return at < s.length() ? s.substring(0, at) + sign + s.substring(at + 1) : s + sign;
        }
    }
}
