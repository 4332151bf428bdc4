import java.util.Random;

/** Runs of 512 calls by lots that are the same every time, each answer held against Model's. */
public final class ModelTest {
    private static final int RUNS = 400, CALLS = 512;
    private static final Checks CHECKS = new Checks("ModelTest");

    private final Random random;
    private final DustSums x = new DustSums();
    private final Model model = new Model();
    private int calls;

    private ModelTest(long seed) {
        random = new Random(seed);
    }

    public static void main(String[] args) {
        for (int run = 0; run < RUNS; run++) new ModelTest(run).run(run);
        CHECKS.close();
    }

    private void run(int run) {
        // some runs stay with one part of the document, most go through all
        int theme = run % 8;
        while (calls < CALLS - 1) {
            if (random.nextInt(theme == 1 ? 3 : 25) == 0) {
                typeProgram(run);
            } else {
                call(run, theme);
            }
        }
    }

    private void due(int run, String call, long got, long want) {
        calls++;
        CHECKS.due("run " + run + " " + call, got, want);
    }

    /** Mostly a number from least to most, now and then one just or far outside. */
    private int pick(int least, int most) {
        int kind = random.nextInt(60);
        if (kind == 0) return least - 1;
        if (kind == 1) return most + 1;
        if (kind == 2) return random.nextBoolean() ? Integer.MIN_VALUE : Integer.MAX_VALUE;
        if (kind == 3) return random.nextInt();
        if (kind < 10) return random.nextBoolean() ? least : most;
        return least + random.nextInt(most - least + 1);
    }

    private void call(int run, int theme) {
        int which = random.nextInt(24);
        if (theme == 2) which = 5 + random.nextInt(7);
        if (theme == 3) which = 13 + random.nextInt(6);
        if (theme == 4) which = 18 + random.nextInt(4);
        if (which < 12) {
            callOfRuns(run, which);
        } else {
            callOfCurves(run, which);
        }
    }

    private void callOfRuns(int run, int which) {
        int a = pick(0, 15);
        int b = pick(0, 5);
        int hand = pick(0, 2);
        int bit = pick(0, 1);
        switch (which) {
            case 0 -> due(run, "item " + a + " " + b, x.item(a, b), model.item(a, b));
            case 1 -> {
                int v = random.nextInt(3) == 0 ? pick(2, 16) : pick(2, 4);
                due(run, "modulus " + v, x.modulus(v), model.modulus(v));
            }
            case 2, 3 -> {
                int i = pick(0, 3);
                due(run, "input " + i + " " + bit + " " + a, x.input(i, bit, a), model.input(i, bit, a));
            }
            case 4 -> {
                int i = pick(0, 39);
                due(run, "lot " + i + " " + a, x.lot(i, a), model.lot(i, a));
            }
            case 5 -> {
                int item = random.nextBoolean() ? model.count(0) - 1 : a;
                int v = pick(1, 15);
                due(run, "lie " + item + " " + hand + " " + v, x.lie(item, hand, v), model.lie(item, hand, v));
                if (random.nextInt(9) == 0) due(run, "honest", x.honest(), model.honest());
            }
            case 6 -> due(run, "end", x.end(), model.end());
            case 7 -> due(run, "share " + a + " " + hand, x.share(a, hand), model.share(a, hand));
            case 8 -> {
                int k = pick(-1, 30);
                due(run, "seen " + hand + " " + k, x.seen(hand, k), model.seen(hand, k));
            }
            case 9 -> {
                // each costs the model thousands of stories
                if (random.nextInt(8) != 0) return;
                due(run, "spy " + hand + " " + bit, x.spy(hand, bit), model.spy(hand, bit));
            }
            case 10 -> {
                if (random.nextInt(3) != 0) return;
                due(run, "tells " + hand + " " + bit, x.tells(hand, bit), model.tells(hand, bit));
            }
            default -> {
                int rounds = random.nextInt(9) == 0 ? pick(0, 99) : pick(0, 10);
                due(run, "least " + rounds + " " + bit, x.least(rounds, bit), model.least(rounds, bit));
                int v = random.nextBoolean() ? pick(0, 30) : pick(0, 999);
                if (random.nextInt(3) == 0) due(run, "trade " + hand + " " + v, x.trade(hand, v), model.trade(hand, v));
            }
        }
    }

    private void callOfCurves(int run, int which) {
        int hand = pick(0, 5);
        int bit = pick(0, 1);
        switch (which) {
            case 12 -> {
                int what = pick(0, 2);
                int v = what == 0 ? new int[] {5, 7, 11, 13, 9}[random.nextInt(5)] : what == 1 ? pick(0, 2) : pick(3, 6);
                due(run, "field " + what + " " + v, x.field(what, v), model.field(what, v));
            }
            case 13 -> {
                int secret = pick(0, 6);
                int c1 = pick(0, 3);
                int c2 = random.nextBoolean() ? 0 : pick(0, 4);
                due(run, "curve " + secret + " " + c1 + " " + c2, x.curve(secret, c1, c2), model.curve(secret, c1, c2));
            }
            case 14 -> due(run, "point " + hand, x.point(hand), model.point(hand));
            case 15 -> {
                int v = random.nextBoolean() ? 0 : pick(0, 12);
                due(run, "bend " + hand + " " + v, x.bend(hand, v), model.bend(hand, v));
            }
            case 16 -> {
                int set = pick(0, 63);
                due(run, "open " + set + " " + bit, x.open(set, bit), model.open(set, bit));
            }
            case 17 -> {
                if (random.nextInt(8) != 0) return;
                int set = pick(0, 63);
                due(run, "product " + set + " " + bit, x.product(set, bit), model.product(set, bit));
            }
            case 18 -> due(run, "month " + bit, x.month(bit), model.month(bit));
            case 19 -> due(run, "steal " + hand, x.steal(hand), model.steal(hand));
            case 20 -> due(run, "known " + bit, x.known(bit), model.known(bit));
            case 21 -> {
                int kind = pick(0, 5);
                int item = pick(0, 8);
                due(run, "weight " + kind + " " + item, x.weight(kind, item), model.weight(kind, item));
            }
            case 22 -> {
                int what = pick(0, 7);
                due(run, "count " + what, x.count(what), model.count(what));
            }
            default -> due(run, "trace", x.trace(), model.trace());
        }
    }

    /** Types a program, mostly a good one, as far as an object's calls reach. */
    private void typeProgram(int run) {
        String text = goodProgram();
        if (random.nextInt(3) == 0) text = spoiled(text);
        for (int i = 0; i < text.length() && calls < CALLS - 2;) {
            int n = Math.min(1 + random.nextInt(8), text.length() - i);
            long v = random.nextLong();
            for (int k = 0; k < n; k++) v = v << 8 | text.charAt(i + k);
            due(run, "type " + v + " " + n, x.type(v, n), model.type(v, n));
            i += n;
        }
        due(run, "program of " + text, x.program(), model.program());
        if (random.nextInt(10) != 0) due(run, "clear", x.clear(), model.clear());
    }

    private String goodProgram() {
        StringBuilder text = new StringBuilder();
        StringBuilder made = new StringBuilder();
        StringBuilder free = new StringBuilder("ABCDEFGHIJKLMNOP");
        int items = 1 + random.nextInt(random.nextInt(4) == 0 ? 16 : 7);
        // few products at most times, so that spies have something to do
        int muls = random.nextInt(3) == 0 ? 5 : random.nextInt(2);
        int ins = 1 + random.nextInt(4);
        for (int i = 0; i < items; i++) {
            int what = made.length() == 0 ? random.nextInt(2) : random.nextInt(5);
            if (what == 0 && ins-- <= 0) what = 1;
            if (what == 4 && muls-- <= 0) what = 2;
            if (free.length() == 0) break;
            int at = random.nextInt(free.length());
            char v = free.charAt(at);
            free.deleteCharAt(at);
            text.append(new String[] {"in", "con", "add", "sub", "mul"}[what]).append(blanks()).append(v).append(blanks());
            if (what < 2) {
                text.append(random.nextInt(what == 0 ? 3 : 16));
            } else {
                text.append(made.charAt(random.nextInt(made.length()))).append(blanks()).append(made.charAt(random.nextInt(made.length())));
            }
            text.append(random.nextInt(9) == 0 ? " ;" : ";").append(random.nextInt(9) == 0 ? " " : "");
            made.append(v);
        }
        return text.append("out ").append(made.charAt(random.nextInt(made.length()))).append(";").toString();
    }

    private String blanks() {
        return random.nextInt(9) == 0 ? "  " : random.nextInt(30) == 0 ? "" : " ";
    }

    private String spoiled(String text) {
        StringBuilder spoiled = new StringBuilder(text);
        String odd = "ABCPQaimnou0129 ;;  \t" + (char) 200 + (char) 0;
        int at = random.nextInt(text.length());
        switch (random.nextInt(4)) {
            case 0 -> spoiled.deleteCharAt(at);
            case 1 -> spoiled.insert(at, odd.charAt(random.nextInt(odd.length())));
            case 2 -> spoiled.setCharAt(at, odd.charAt(random.nextInt(odd.length())));
            default -> spoiled.setLength(at);
        }
        return spoiled.toString();
    }
}
