/** Random runs of all calls: the class and the model answer the same. */
public final class ModelTest {
    private static final Due due = new Due();

    public static void main(String[] args) throws ReflectiveOperationException {
        int runs = args.length > 0 ? Integer.parseInt(args[0]) : 600;
        long seed = args.length > 1 ? Long.parseLong(args[1]) : 0;
        for (int run = 0; run < runs; run++) {
            new ModelTest(seed + run).go();
        }
        due.end();
    }

    private final PushedIn program = new PushedIn();
    private final Model model = new Model();
    private final Calls calls;
    private final long run;
    private int made;

    private ModelTest(long run) {
        this.run = run;
        calls = new Calls(run);
    }

    private void go() throws ReflectiveOperationException {
        int comers = 2 + calls.below(calls.below(4) == 0 ? 30 : 10);
        for (int i = 0; i < comers && made < 330; i++) {
            if (calls.below(6) == 0) {
                ask("yard", 0, calls.below(4) == 0 ? calls.below(4) : 0);
            }
            tell(calls.comerText(), "comer");
        }
        int rules = calls.below(8);
        for (int i = 0; i < rules; i++) {
            ask("rule", calls.sensible("rule", 0, 0));
        }
        ask("row", 0, 1, 5 * calls.below(4));
        while (made < 512) {
            int kind = calls.below(20);
            if (kind == 0) {
                tell(calls.comerText(), "comer");
            } else if (kind == 1) {
                tell(calls.ruleText(), "text");
            } else if (kind == 2 && calls.below(4) == 0) {
                String name = calls.anyName();
                ask(name, calls.wild(name));
            } else {
                String name = calls.anyName();
                ask(name, calls.sensible(name, program.count(0), program.count(1)));
            }
        }
    }

    private void tell(String text, String as) throws ReflectiveOperationException {
        for (int at = 0; at < text.length() && at < 60; at += 4) {
            int n = Math.min(4, text.length() - at);
            int v = 0;
            for (int i = n - 1; i >= 0; i--) {
                v = v << 8 | text.charAt(at + i);
            }
            ask("feed", n, v);
        }
        ask(as);
    }

    private void ask(String name, long... args) throws ReflectiveOperationException {
        made++;
        long want = Calls.answer(model, name, args);
        long got = Calls.answer(program, name, args);
        if (want != Model.TOO_MANY) {
            due.is("run " + run + ", call " + made + ": " + Calls.shown(name, args), got, want);
        }
    }
}
