import java.util.IdentityHashMap;
import java.util.List;
import java.util.Map;
import java.util.function.Supplier;

/**
 * What the tests of edges share: each check belongs to words of the document, which are quoted ahead of it
 * (SentencesTest looks that no sentence is left out), and a refused call is shown to change nothing.
 */
final class Edges {
    /** Stands in a call's arguments where bounds() puts the numbers that it tries. */
    static final long HERE = Long.MIN_VALUE + 7;

    private final Due due = new Due();
    private final Map<Supplier<PushedIn>, List<Long>> shown = new IdentityHashMap<>();
    private String words = "";

    /** The words of the document that the next checks are of: of a promise, or of the terms (0). */
    void says(int promise, String quoted) {
        words = (promise == 0 ? "terms" : "promise " + promise) + " \"" + quoted + "\": ";
    }

    void is(String call, long got, long want) {
        due.is(words + call, got, want);
    }

    /** The numbers that a question answers from its first place on. */
    void are(String calls, long[] got, long... want) {
        is(calls + ", how many", got.length, want.length);
        for (int i = 0; i < Math.min(got.length, want.length); i++) {
            is(calls + " at " + i, got[i], want[i]);
        }
    }

    /** The call is answered so, and changes nothing. */
    void refused(long answer, Supplier<PushedIn> made, String call, long... args) {
        is(Calls.shown(call, args), answered(made.get(), call, args), answer);
        unchanged(made, call, args);
    }

    /** Nothing that a later call can show is changed by the call. */
    void unchanged(Supplier<PushedIn> made, String call, long... args) {
        List<Long> before = shown.computeIfAbsent(made, Shown::of);
        List<Long> after = Shown.of(() -> {
            PushedIn x = made.get();
            answered(x, call, args);
            return x;
        });
        due.holds(words + Calls.shown(call, args) + " changed nothing", before.equals(after));
    }

    /** The call is not answered by one of the refusals. */
    void taken(Supplier<PushedIn> made, String call, long... args) {
        long got = answered(made.get(), call, args);
        due.holds(words + Calls.shown(call, args) + " is taken: " + got, got >= 0 || got == PushedIn.NOT);
    }

    /** The argument at HERE is taken at its least and at its most, and is BAD beyond them on either side. */
    void bounds(Supplier<PushedIn> made, int least, int most, String call, long... args) {
        taken(made, call, filled(args, least));
        taken(made, call, filled(args, most));
        for (long beyond : new long[] {least - 1L, most + 1L, Integer.MIN_VALUE, Integer.MAX_VALUE}) {
            refused(PushedIn.BAD, made, call, filled(args, beyond));
        }
    }

    void end() {
        due.end();
    }

    private static long[] filled(long[] args, long v) {
        long[] all = args.clone();
        for (int i = 0; i < all.length; i++) {
            all[i] = all[i] == HERE ? v : all[i];
        }
        return all;
    }

    static long answered(PushedIn x, String call, long... args) {
        try {
            return Calls.answer(x, call, args);
        } catch (ReflectiveOperationException e) {
            throw new IllegalStateException(Calls.shown(call, args), e);
        }
    }
}
