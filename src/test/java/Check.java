/** Counts answers that are not as due, and feeds texts. */
final class Check {
    private final String name;
    private int done = 0;
    private int wrong = 0;

    Check(String name) {
        this.name = name;
    }

    void due(String call, long got, long want) {
        done++;
        if (got != want) {
            wrong++;
            if (wrong <= 40) {
                System.out.println(name + ": " + call + " answered " + got + ", due is " + want);
            }
        }
    }

    void holds(String what, boolean so) {
        due(what, so ? 1 : 0, 1);
    }

    int wrong() {
        return wrong;
    }

    void end() {
        System.out.println(name + ": " + done + " answers, " + wrong + " not as due");
        if (wrong != 0) {
            System.exit(1);
        }
    }

    /** Up to eight bytes of a text from a place on, as one long. */
    static long packed(String text, int from, int n) {
        long bytes = 0;
        for (int i = 0; i < n; i++) {
            bytes = bytes << 8 | text.charAt(from + i) & 255;
        }
        return bytes;
    }

    static void feed(WhipCrack w, String text) {
        for (int from = 0; from < text.length(); from += 8) {
            int n = Math.min(8, text.length() - from);
            w.feed(n, packed(text, from, n));
        }
    }

    static int plait(WhipCrack w, String text) {
        feed(w, text);
        return w.plait();
    }

    static int way(WhipCrack w, String text) {
        feed(w, text);
        return w.way();
    }
}
