/** Boundary cases of promises 22 and 23: what is opened, of a curve and of its product. */
final class OpenEdges extends Edges {
    private static final int[] CURVE = {12, 7, 9};
    /** So that no other curve comes near as many POINTS as the true one, and no square stays as it was. */
    private static final int[] BENDS = {3, 7, 5};

    private static void field(DustSums x, int q, int g, int n) {
        x.field(2, 3);
        x.field(0, q);
        x.field(1, g);
        x.field(2, n);
    }

    /** Q 13 and six HANDS, of which the first so many lie. */
    private static void liars(DustSums x, int g, int lying) {
        field(x, 13, g, 6);
        x.curve(CURVE[0], g > 0 ? CURVE[1] : 0, g > 1 ? CURVE[2] : 0);
        for (int hand = 0; hand < lying; hand++) x.bend(hand, BENDS[hand]);
    }

    private static DustSums object(int g, int lying) {
        DustSums x = new DustSums();
        liars(x, g, lying);
        return x;
    }

    private static int first(int hands) {
        return (1 << hands) - 1;
    }

    private static void opened(String call, DustSums x, int set, int secret, int liars) {
        due(call + ": secret", x.open(set, 0), secret);
        due(call + ": liars", x.open(set, 1), liars);
    }

    private static void productOpened(String call, DustSums x, int set, int secret, int liars) {
        due(call + ": secret", x.product(set, 0), secret);
        due(call + ": liars", x.product(set, 1), liars);
    }

    // ---- 22: open

    /** "a set (bits)" of HANDS 0 .. n - 1: from none to all. */
    static void promise22_setsAreOfTheHandsThatThereAre() {
        for (int hands = 3; hands <= 6; hands++) {
            int n = hands;
            Setup setup = x -> field(x, 7, 1, n);
            range("set of " + n, setup, (x, set) -> x.open(set, 0), 0, first(n));
            range("liars of " + n, setup, (x, set) -> x.open(set, 1), 0, first(n));
            for (int bit = n; bit < 32; bit++) {
                int set = 1 << bit | 3;
                refused("a hand " + bit, setup, x -> x.open(set, 0), -1);
            }
        }
    }

    static void promise22_whatIs0And1() {
        for (int set : new int[] {0, 1, 3, 63}) range("what", Edges::busy, (x, what) -> x.open(set, what), 0, 1);
    }

    /** No HAND at all, and no more than g: too few for just one curve. */
    static void promise22_gHandsAreTooFew() {
        for (int g = 0; g <= 2; g++) {
            for (int set = 0; set < 64; set++) {
                if (Integer.bitCount(set) <= g) opened("g " + g + " set " + set, object(g, 0), set, -9, -9);
            }
        }
    }

    /** One more than g opens, but every lie passes: whatever they have is on a curve. */
    static void promise22_oneMoreThanGOpensWithoutLiars() {
        for (int g = 0; g <= 2; g++) {
            for (int set = 0; set < 64; set++) {
                if (Integer.bitCount(set) == g + 1) opened("g " + g + " set " + set, object(g, 0), set, CURVE[0], 0);
            }
        }
        opened("one lies", object(0, 1), 1, (CURVE[0] + BENDS[0]) % 13, 0);
        // 19 at 1 is 6, bent by 3 it is 9; 26 at 2 is 0: 9 less a step, so 18 at 0
        opened("one of two lies", object(1, 1), 3, 18 % 13, 0);
    }

    /** "2 (m - g) is above s - g": as many liars as may be, and one more, for each g and each s. */
    static void promise22_liarsUpToTheBound() {
        for (int g = 0; g <= 2; g++) {
            for (int s = g + 2; s <= 6; s++) {
                int most = (s - g - 1) / 2;
                for (int lying = 0; lying <= most; lying++) {
                    opened(lying + " of " + s + " lie, g " + g, object(g, lying), first(s), CURVE[0], first(lying));
                }
                opened(most + 1 + " of " + s + " lie, g " + g, object(g, most + 1), first(s), -9, -9);
            }
        }
    }

    /** Just as far as the bound: 2 (m - g) equal to s - g is not above it. */
    static void promise22_justAtTheBoundIsNone() {
        opened("2 of 4, g 0: 4 and 4", object(0, 2), 15, -9, -9);
        opened("3 of 6, g 0: 6 and 6", object(0, 3), 63, -9, -9);
        opened("2 of 3, g 1: 2 and 2", object(1, 1), 7, -9, -9);
        opened("3 of 5, g 1: 4 and 4", object(1, 2), 31, -9, -9);
        opened("3 of 4, g 2: 2 and 2", object(2, 1), 15, -9, -9);
        opened("4 of 6, g 2: 4 and 4", object(2, 2), 63, -9, -9);
    }

    /** "just one CURVE agrees with as many": two that agree with as many open nothing. */
    static void promise22_twoCurvesWithAsMany() {
        DustSums x = object(0, 0);
        x.bend(0, 5);
        x.bend(1, 5);
        opened("two and two", x, 15, -9, -9);
        opened("two and three", x, 31, CURVE[0], 3);
        opened("two and one", x, 7, (CURVE[0] + 5) % 13, 4);
        opened("one and one", x, 6, -9, -9);
        x.bend(2, 5);
        opened("three and three", x, 63, -9, -9);
        opened("three and two", x, 31, (CURVE[0] + 5) % 13, 24);
    }

    /** "LIARS: those of the set": one outside is not named, and the last HAND may be one. */
    static void promise22_liarsOutsideTheSet() {
        DustSums x = object(1, 1);
        opened("all", x, 63, CURVE[0], 1);
        opened("without it", x, 62, CURVE[0], 0);
        x.bend(0, 0);
        x.bend(5, 12);
        opened("the last", x, 63, CURVE[0], 32);
        opened("without the last", x, 31, CURVE[0], 0);
    }

    /** A bend of 0 is no lie. */
    static void promise22_aBendOf0IsNoLie() {
        DustSums x = object(2, 1);
        x.bend(0, 0);
        opened("all", x, 63, CURVE[0], 0);
    }

    /** The least and the greatest secret, with each prime. */
    static void promise22_secretsAre0ToQLess1() {
        for (int q : new int[] {5, 7, 11, 13}) {
            DustSums x = new DustSums();
            field(x, q, 2, 4);
            for (int secret : new int[] {0, 1, q - 1}) {
                x.curve(secret, q - 1, q - 1);
                for (int set : new int[] {7, 11, 13, 14, 15}) opened("Q " + q, x, set, secret, 0);
            }
        }
    }

    // ---- 23: product

    static void promise23_setsAreOfTheHandsThatThereAre() {
        for (int hands = 3; hands <= 6; hands++) {
            int n = hands;
            Setup setup = x -> field(x, 7, 0, n);
            range("set of " + n, setup, (x, set) -> x.product(set, 0), 0, first(n));
            range("liars of " + n, setup, (x, set) -> x.product(set, 1), 0, first(n));
            for (int bit = n; bit < 32; bit++) {
                int set = 1 << bit | 7;
                refused("a hand " + bit, setup, x -> x.product(set, 0), -1);
            }
        }
    }

    static void promise23_whatIs0And1() {
        range("what", Edges::busy, (x, what) -> x.product(63, what), 0, 1);
        range("what with STATE", Edges::busy, (x, what) -> x.product(1, what), 0, 1);
    }

    /** "(STATE: no more than 2 g HANDS are in the set.)": 2 g of them, and one more. */
    static void promise23_2gHandsAreState() {
        int square = CURVE[0] * CURVE[0] % 13;
        for (int g = 0; g <= 2; g++) {
            int degree = g;
            for (int s = 0; s <= 6; s++) {
                int set = first(s);
                if (s > 2 * g) {
                    productOpened(s + " hands, g " + g, object(g, 0), set, square, 0);
                    continue;
                }
                for (int what = 0; what < 2; what++) {
                    int w = what;
                    refused(s + " hands, g " + g, x -> liars(x, degree, 0), x -> x.product(set, w), -2);
                }
            }
        }
    }

    /** With Q 5 four HANDS are the most: never enough for g 2. */
    static void promise23_q5IsAlwaysStateWithG2() {
        Setup setup = x -> field(x, 5, 2, 4);
        for (int hands = 0; hands < 16; hands++) {
            int set = hands;
            refused("set " + set, setup, x -> x.product(set, 0), -2);
        }
        DustSums x = new DustSums();
        field(x, 5, 1, 4);
        x.curve(4, 4, 0);
        productOpened("g 1", x, 15, 1, 0);
    }

    /** "the first of these: BAD .., STATE". */
    static void promise23_badComesBeforeState() {
        for (int what : new int[] {-1, 2}) refused("what " + what, Edges::busy, x -> x.product(0, what), -1);
        for (int set : new int[] {-1, 64, 1 << 30, Integer.MIN_VALUE}) refused("set " + set, Edges::busy, x -> x.product(set, 0), -1);
    }

    /** "OPENED as of DEGREE 2 g": as many liars as may be, and one more. */
    static void promise23_liarsUpToTheBound() {
        int square = CURVE[0] * CURVE[0] % 13;
        for (int g = 0; g <= 2; g++) {
            for (int s = 2 * g + 2; s <= 6; s++) {
                int most = (s - 2 * g - 1) / 2;
                for (int lying = 0; lying <= most; lying++) {
                    productOpened(lying + " of " + s + " lie, g " + g, object(g, lying), first(s), square, first(lying));
                }
                productOpened(most + 1 + " of " + s + " lie, g " + g, object(g, most + 1), first(s), -9, -9);
            }
        }
    }

    /** "POINTS times themselves", as BENT: one that is bent to its own opposite has the same square. */
    static void promise23_oppositesAreNoLies() {
        DustSums x = new DustSums();
        field(x, 7, 0, 5);
        x.curve(6, 0, 0);
        x.bend(0, 2);
        due("1 is less 6", x.point(0), 1);
        productOpened("no liar", x, 31, 1, 0);
        opened("but one in the curve itself", x, 31, 6, 1);
        x.bend(0, 1);
        productOpened("0", x, 31, 1, 1);
    }

    /** Squares pass Q: the greatest number by itself is 1. */
    static void promise23_squaresAreModuloQ() {
        for (int q : new int[] {5, 7, 11, 13}) {
            DustSums x = new DustSums();
            field(x, q, 1, 4);
            for (int secret = 0; secret < q; secret++) {
                x.curve(secret, q - 1, 0);
                productOpened("Q " + q, x, 15, secret * secret % q, 0);
                productOpened("Q " + q, x, 7, secret * secret % q, 0);
            }
        }
    }

    /** A product changes no POINTS: the curve opens behind it as before. */
    static void promise23_pointsStay() {
        DustSums x = object(1, 1);
        x.product(63, 0);
        opened("as before", x, 63, CURVE[0], 1);
        due("point", x.point(1), (12 + 14) % 13);
    }
}
