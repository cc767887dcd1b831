import java.util.regex.Matcher;
import java.util.regex.Pattern;

/** Calls written out one behind another, such as "'5-9@0m0s0' comer() of(0, 9)": what stands in '..' is fed. */
final class Script {
    private static final Pattern STEP = Pattern.compile("'([^']*)'|(\\w+)\\(([^()]*)\\)|(\\S)");

    private Script() {
    }

    /** What the last call answered. */
    static long run(PushedIn x, String calls) {
        long answer = 0;
        Matcher step = STEP.matcher(calls);
        while (step.find()) {
            if (step.group(4) != null) {
                throw new IllegalArgumentException(calls);
            }
            if (step.group(1) != null) {
                Due.feed(x, step.group(1));
            } else {
                answer = Edges.answered(x, step.group(2), numbers(step.group(3)));
            }
        }
        return answer;
    }

    private static long[] numbers(String args) {
        String[] each = args.isEmpty() ? new String[0] : args.split(", ");
        long[] all = new long[each.length];
        for (int i = 0; i < all.length; i++) {
            all[i] = Long.parseLong(each[i]);
        }
        return all;
    }
}
