/** Collects the answers that are not as due; the tests of the project share it. */
final class Due {
    private int asked;
    private int wrong;

    void is(String call, long got, long want) {
        asked++;
        if (got != want) {
            wrong++;
            if (wrong <= 50) {
                System.out.println(call + " answered " + got + ", due is " + want);
            }
        }
    }

    void holds(String what, boolean does) {
        is(what, does ? 1 : 0, 1);
    }

    void end() {
        System.out.println(asked + " answers, " + wrong + " not as due");
        if (wrong != 0 || asked == 0) {
            System.exit(1);
        }
    }

    /** Feeds a text, as many bytes at once as feed() takes. */
    static void feed(PushedIn x, String text) {
        for (int at = 0; at < text.length(); at += 4) {
            int n = Math.min(4, text.length() - at);
            int v = 0;
            for (int i = n - 1; i >= 0; i--) {
                v = v << 8 | text.charAt(at + i);
            }
            x.feed(n, v);
        }
    }

    static int comer(PushedIn x, String text) {
        feed(x, text);
        return x.comer();
    }

    static int text(PushedIn x, String text) {
        feed(x, text);
        return x.text();
    }

    /** A new object with these comers. */
    static PushedIn yard(String... comers) {
        PushedIn x = new PushedIn();
        for (String c : comers) {
            comer(x, c);
        }
        return x;
    }

    /** Puts a row of shorts at a place. */
    static void shorts(PushedIn x, int place, int... elements) {
        x.row(place, 1, elements.length);
        for (int i = 0; i < elements.length; i++) {
            x.put(place, i, elements[i]);
        }
    }
}
