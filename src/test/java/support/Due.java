/** Collects the calls whose answer is not the one that is due. */
final class Due {
    private static int calls = 0;
    private static int wrong = 0;

    private Due() {
    }

    static void due(String call, long got, long want) {
        calls++;
        if (got != want) {
            wrong++;
            System.out.println(call + " answered " + got + ", due is " + want);
        }
    }

    /** Feeds a text to THE TAPE, eight bytes a call. */
    static void feed(ParishUnion x, String text) {
        for (int i = 0; i < text.length(); i += 8) {
            long w = 0;
            int n = Math.min(8, text.length() - i);
            for (int j = 0; j < n; j++) {
                w = w << 8 | (text.charAt(i + j) & 255);
            }
            x.feed(w, n);
        }
    }

    /** A text as an ACT from a WEEK on: what text answers. */
    static int act(ParishUnion x, String text, int week) {
        feed(x, text);
        return x.text(week);
    }

    static void end() {
        System.out.println(wrong == 0 ? calls + " answers are as due" : wrong + " answers are not as due");
        if (wrong != 0) {
            System.exit(1);
        }
    }
}
