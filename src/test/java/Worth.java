/** What a text is worth, found by who is next: one whose score is the text's, or one whose score is told. */
final class Worth {
    private Worth() {
    }

    /**
     * Two comers that both can be next at 30: 0 (which waited 20, of sort 3, matter 2 of least 4, number 17, line 0)
     * goes ahead where the scores are like. Rule 0 goes by the text, with a 6 and b 5.
     */
    static PushedIn yard() {
        PushedIn x = Due.yard("10-40@0m2s3#17", "11-40@1m3s4");
        x.matter(2, 0, 4);
        x.rule(7, 605, 0);
        return x;
    }

    /** The score by a text (of some 25 bytes at most) of comer 0 at 30 at door 0. */
    static int of(String text) {
        long least = Integer.MIN_VALUE;
        long most = Integer.MAX_VALUE;
        for (int i = 0; i < 32 && least < most; i++) {
            long middle = Math.floorDiv(least + most + 1, 2);
            if (isAsMuchAs(text, (int) middle)) {
                least = middle;
            } else {
                most = middle - 1;
            }
        }
        return (int) least;
    }

    private static boolean isAsMuchAs(String text, int score) {
        PushedIn x = yard();
        String joined = "s=4?" + spelled(score) + ";" + text;
        if (joined.length() > 60 || Due.text(x, joined) != 1) {
            throw new IllegalStateException(joined);
        }
        return x.next(0, 0, 30) == 0;
    }

    /** Numbers have four digits at most, so a long one is put together from those. */
    private static String spelled(int v) {
        if (v < 0) {
            return "-(" + spelled(-v) + ")";
        }
        return v < 10000 ? "" + v : "(" + spelled(v / 9999) + ")*9999+" + v % 9999;
    }
}
