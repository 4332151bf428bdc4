/** What the tests of the project share: counting wrong answers, and texts put in by type(). */
final class Checks {
    private final String name;
    private int asked;
    private int wrong;

    Checks(String name) {
        this.name = name;
    }

    void due(String call, long got, long want) {
        asked++;
        if (got == want) return;
        wrong++;
        System.out.println(name + ": " + call + " answered " + got + ", due is " + want);
    }

    /** Ends with exit code 1 if an answer was wrong. */
    void close() {
        System.out.println(name + ": " + asked + " answers, " + wrong + " wrong");
        if (wrong != 0 || asked == 0) System.exit(1);
    }

    /** Types a text, as many bytes a call as it can. */
    static void typeText(DustSums x, String text) {
        for (int i = 0; i < text.length(); i += 8) {
            int n = Math.min(8, text.length() - i);
            long v = 0;
            for (int k = 0; k < n; k++) v = v << 8 | text.charAt(i + k);
            x.type(v, n);
        }
    }

    /** The answer of program() for a text alone; a text at fault is cleared. */
    static int load(DustSums x, String text) {
        x.clear();
        typeText(x, text);
        int answer = x.program();
        x.clear();
        return answer;
    }

    static DustSums with(String text) {
        DustSums x = new DustSums();
        if (load(x, text) < 0) throw new IllegalStateException("no program: " + text);
        return x;
    }
}
