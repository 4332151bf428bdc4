/** Boundary cases of promises 27 to 29: weights, counts and the trace. */
final class WeightEdges extends Edges {
    private static final String EACH_KIND = "in A 0;in B 1;in C 2;con D 9;add E A D;sub F E B;mul G E F;out G;";

    // ---- 27: weight

    static void promise27_kindsAre0To5() {
        range("kind", Edges::fresh, (x, kind) -> x.weight(kind, 0), 0, 5);
        range("kind of a busy object", Edges::busy, (x, kind) -> x.weight(kind, 3), 0, 5);
    }

    static void promise27_itemsAreFromTheFirstToTheLast() {
        for (int kind = 0; kind < 6; kind++) {
            int k = kind;
            range("item", Edges::fresh, (x, item) -> x.weight(k, item), 0, 1);
            range("item of eight", program(EACH_KIND), (x, item) -> x.weight(k, item), 0, 7);
        }
    }

    /** Each KIND of each ITEM, with the least and the greatest M and g. */
    static void promise27_eachKindOfEachItem() {
        int[] lots = {2, 2, 2, 0, 0, 0, 8, 0};
        int[] seen = {3, 1, 1, 0, 0, 0, 9, 3};
        for (int m : new int[] {2, 5, 16}) {
            for (int g = 0; g <= 2; g++) {
                DustSums x = with(EACH_KIND);
                x.modulus(m);
                x.field(1, g);
                for (int item = 0; item < 8; item++) {
                    due("share", x.weight(0, item), 3);
                    due("sum", x.weight(1, item), 3 + lots[item]);
                    due("curve", x.weight(2, item), 3 + g);
                    due("bit", x.weight(3, item), (3 + lots[item]) * m);
                    due("sealed", x.weight(4, item), 2 * (3 + g));
                    due("opened", x.weight(5, item), 3 + seen[item]);
                }
            }
        }
    }

    /** Weights are of ITEMS of the program that stands. */
    static void promise27_itemsOfALongerProgramAreGone() {
        refused("the third of two", x -> {
            load(x, EACH_KIND);
            load(x, "con A 0;out A;");
        }, x -> x.weight(1, 2), -1);
    }

    // ---- 28: count

    static void promise28_whatIs0To7() {
        range("count", Edges::fresh, (x, what) -> x.count(what), 0, 7);
        range("count of a busy object", Edges::busy, (x, what) -> x.count(what), 0, 7);
    }

    /** The least of each. */
    static void promise28_leastCounts() {
        DustSums x = new DustSums();
        int[] least = {2, 0, 0, 0, 0, 0, 0, 0};
        for (int what = 0; what < 8; what++) due("count " + what, x.count(what), least[what]);
    }

    /** The most of each: 16 ITEMS, 4 INPUTS, 4 mul's, 40 LOTS, 6 LIES, MONTH 29, 300 bytes, 30 POINTS. */
    static void promise28_greatestCounts() {
        DustSums x = with("in A 0;in B 0;in C 0;in D 0;mul E A A;mul F A A;mul G A A;mul H A A;con I 0;con J 0;con K 0;con L 0;"
            + "con M 0;con N 0;con O 0;out O;");
        for (int i = 0; i < 7; i++) x.lie(15, 0, 1);
        for (int i = 0; i < 30; i++) x.month(0);
        for (int i = 0; i < 31; i++) x.steal(0);
        typeBlanks(x, 304);
        int[] most = {16, 4, 4, 40, 6, 29, 296, 30};
        for (int what = 0; what < 8; what++) due("count " + what, x.count(what), most[what]);
        typeBlanks(x, 4);
        due("bytes", x.count(6), 300);
    }

    /** "LOTS that THE PROGRAM takes": two an in, eight a mul, for each number of both. */
    static void promise28_lotsByInsAndMuls() {
        for (int ins = 0; ins <= 4; ins++) {
            for (int muls = 0; muls <= 4; muls++) {
                DustSums x = with(textOf(ins, muls));
                due("inputs", x.count(1), ins);
                due("muls", x.count(2), muls);
                due("lots", x.count(3), 2 * ins + 8 * muls);
            }
        }
    }

    // ---- 29: trace

    /** "numbers in brackets come to THE TRACE as often as weight() asks that body". */
    static void promise29_eachBodyOnItsWayUp() {
        long[] brackets = {1, 11, 101, 1011, 10101, 100001};
        for (int kind = 0; kind < 6; kind++) {
            DustSums x = with(EACH_KIND);
            for (int item = 0; item < 8; item++) {
                x.weight(kind, item);
                due("kind " + kind, x.trace(), brackets[kind] * (item + 1));
            }
        }
    }

    static void promise29_refusedWeightsLeaveNoTrace() {
        for (int kind : new int[] {-1, 6}) refused("kind " + kind, Edges::busy, x -> x.weight(kind, 0), -1);
        for (int item : new int[] {-1, 4}) {
            for (int kind = 0; kind < 6; kind++) {
                int k = kind;
                refused("item " + item, Edges::busy, x -> x.weight(k, item), -1);
            }
        }
        DustSums x = new DustSums();
        x.weight(6, 0);
        x.weight(-1, 0);
        x.weight(5, 2);
        due("trace", x.trace(), 0);
    }

    /** Nothing else comes to it, and nothing takes it back. */
    static void promise29_onlyWeightsCome() {
        DustSums x = new DustSums();
        x.weight(4, 0);
        due("asked", x.trace(), 10101);
        due("asked again", x.trace(), 10101);
        busy(x);
        due("one weight more", x.trace(), 10101 + 100001);
        x.clear();
        x.honest();
        x.field(1, 0);
        load(x, "con A 0;out A;");
        due("it stays", x.trace(), 10101 + 100001);
    }

    /** The most that 511 calls can bring. */
    static void promise29_mostThatCanCome() {
        DustSums x = new DustSums();
        for (int i = 0; i < 511; i++) x.weight(5, 0);
        due("trace", x.trace(), 511L * 100001);
    }
}
