/** Promises 24 to 29: months, thieves, weights, counts and the trace. */
public final class MonthsTest {
    private static final Checks CHECKS = new Checks("MonthsTest");

    private static void due(String call, long got, long want) {
        CHECKS.due(call, got, want);
    }

    public static void main(String[] args) {
        months();
        steals();
        known();
        knownByDegree();
        weights();
        traces();
        counts();
        CHECKS.close();
    }

    private static void months() {
        DustSums x = new DustSums();
        for (int bad : new int[] {-1, 2, Integer.MIN_VALUE, Integer.MAX_VALUE}) due("month " + bad, x.month(bad), -1);
        due("month 0", x.count(5), 0);
        for (int m = 1; m <= 29; m++) due("month", x.month(m % 2), m);
        due("beyond 29", x.month(0), -3);
        due("beyond 29, fresh", x.month(1), -3);
        due("BAD before FULL", x.month(2), -1);
        due("month 29", x.count(5), 29);
        DustSums y = new DustSums();
        for (int m = 1; m <= 29; m++) y.month(0);
        y.steal(0);
        due("refused", y.month(1), -3);
        due("a refused month is not fresh", y.known(1), 0);
    }

    private static void steals() {
        DustSums x = new DustSums();
        for (int bad : new int[] {-1, 5, Integer.MIN_VALUE, Integer.MAX_VALUE}) due("steal " + bad, x.steal(bad), -1);
        due("nothing taken", x.count(7), 0);
        for (int i = 1; i <= 29; i++) due("the same again", x.steal(4), i);
        due("one hand only", x.known(0), 0);
        due("the last", x.steal(4), 30);
        due("too many", x.steal(3), -3);
        due("BAD before FULL", x.steal(5), -1);
        due("taken", x.count(7), 30);
        due("a refused one is not taken", x.known(0), 0);
        x.month(1);
        due("full in every month", x.steal(0), -3);
        x.field(2, 6);
        due("anew", x.steal(5), 1);
    }

    private static void known() {
        DustSums x = new DustSums();
        for (int bad : new int[] {-1, 2, Integer.MIN_VALUE, Integer.MAX_VALUE}) due("known " + bad, x.known(bad), -1);
        x.steal(0);
        x.month(1);
        x.steal(1);
        due("a fresh month between", x.known(0), 0);
        due("safe", x.known(1), 0);
        x.month(1);
        due("safe again", x.known(1), 1);
        x.steal(2);
        x.month(0);
        x.month(0);
        x.steal(2);
        due("the same hand", x.known(0), 0);
        x.steal(3);
        due("months that are not fresh", x.known(0), 1);
        due("safe", x.known(1), 0);
        x.month(1);
        due("what they know they know", x.known(0), 1);
        due("safe", x.known(1), 0);
        x.curve(1, 1, 0);
        due("a new curve is not a new field", x.known(0), 1);
    }

    private static void knownByDegree() {
        for (int g = 0; g <= 2; g++) {
            DustSums x = new DustSums();
            x.field(1, g);
            for (int taken = 0; taken < 5; taken++) {
                due("g " + g + " known", x.known(0), taken > g ? 1 : 0);
                due("g " + g + " safe", x.known(1), Math.max(0, g - taken));
                x.steal(taken);
            }
        }
    }

    private static void weights() {
        DustSums x = Checks.with("in A 0;in B 1;con C 9;add D A C;sub E D B;mul F D E;out F;");
        x.modulus(7);
        x.field(1, 2);
        int[][] due = {
            {3, 3, 3, 3, 3, 3, 3},
            {5, 5, 3, 3, 3, 11, 3},
            {5, 5, 5, 5, 5, 5, 5},
            {35, 35, 21, 21, 21, 77, 21},
            {10, 10, 10, 10, 10, 10, 10},
            {6, 4, 3, 3, 3, 12, 6}};
        for (int kind = 0; kind < 6; kind++) {
            for (int item = 0; item < 7; item++) due("weight(" + kind + ", " + item + ")", x.weight(kind, item), due[kind][item]);
        }
        x.modulus(16);
        due("bits by M", x.weight(3, 5), 176);
        x.field(1, 0);
        due("curve by g", x.weight(2, 0), 3);
        due("sealed by g", x.weight(4, 0), 6);
    }

    private static void traces() {
        DustSums x = new DustSums();
        long[] steps = {1, 11, 101, 1011, 10101, 100001};
        long trace = 0;
        for (int round = 0; round < 3; round++) {
            for (int kind = 0; kind < 6; kind++) {
                x.weight(kind, 1);
                trace += steps[kind];
                due("trace", x.trace(), trace);
            }
        }
        for (int bad : new int[] {-1, 6, Integer.MIN_VALUE, Integer.MAX_VALUE}) due("kind " + bad, x.weight(bad, 0), -1);
        for (int bad : new int[] {-1, 2, 16, Integer.MIN_VALUE, Integer.MAX_VALUE}) due("item " + bad, x.weight(0, bad), -1);
        due("refused ones leave no trace", x.trace(), trace);
        Checks.load(x, "con A 1;con B 2;out B;");
        x.field(1, 2);
        x.clear();
        due("it stays", x.trace(), trace);
        due("the new last item", x.weight(5, 2), 6);
        for (int i = 0; i < 400; i++) x.weight(5, 0);
        due("all that an object's calls can add", x.trace(), trace + 401L * 100001);
    }

    private static void counts() {
        DustSums x = Checks.with("in A 0;in B 1;in C 2;mul D A B;mul E D C;out E;");
        x.lie(3, 0, 1);
        x.month(0);
        x.month(1);
        x.steal(0);
        x.steal(0);
        x.steal(1);
        x.type(0, 7);
        int[] due = {6, 3, 2, 22, 1, 2, 7, 3};
        for (int what = 0; what < due.length; what++) due("count(" + what + ")", x.count(what), due[what]);
        for (int bad : new int[] {-1, 8, Integer.MIN_VALUE, Integer.MAX_VALUE}) due("count " + bad, x.count(bad), -1);
        x.honest();
        x.clear();
        due("lies", x.count(4), 0);
        due("bytes", x.count(6), 0);
    }
}
