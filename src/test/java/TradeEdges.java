/** Boundary cases of promises 16 and 17: prices, and the least price within rounds. */
final class TradeEdges extends Edges {
    private static final String CHAIN = "con A 1;mul B A A;mul C B A;mul D A C;mul E D D;out E;";
    private static final String BESIDE = "con A 1;mul B A A;mul C A A;mul D A A;mul E A A;add F B C;add G D E;add H F G;out H;";

    private static void prices(DustSums x, int night, int words, int talk) {
        x.trade(0, night);
        x.trade(1, words);
        x.trade(2, talk);
    }

    private static void least(DustSums x, int rounds, int price, int set) {
        due("price within " + rounds, x.least(rounds, 0), price);
        due("set within " + rounds, x.least(rounds, 1), set);
    }

    // ---- 16: trade

    static void promise16_whatIs0To2() {
        range("what", Edges::fresh, (x, what) -> x.trade(what, 5), 0, 2);
        range("what of a busy object", Edges::busy, (x, what) -> x.trade(what, 5), 0, 2);
    }

    /** "(N, W, T 0 .. 999". */
    static void promise16_pricesAre0To999() {
        for (int what = 0; what < 3; what++) {
            int w = what;
            range("price", Edges::busy, (x, v) -> x.trade(w, v), 0, 999);
        }
    }

    /** "what it was": the least and the greatest are kept, each in its own place. */
    static void promise16_eachIsKeptInItsPlace() {
        DustSums x = new DustSums();
        prices(x, 999, 0, 998);
        due("N", x.trade(0, 0), 999);
        due("W", x.trade(1, 999), 0);
        due("T", x.trade(2, 1), 998);
        due("N", x.trade(0, 1), 0);
        due("W", x.trade(1, 1), 999);
        due("T", x.trade(2, 0), 1);
    }

    // ---- 17: least

    /** "rounds told (0 .. 99)". */
    static void promise17_roundsAre0To99() {
        for (int what = 0; what < 2; what++) {
            int w = what;
            range("rounds", Edges::fresh, (x, rounds) -> x.least(rounds, w), 0, 99);
            range("rounds of a busy object", Edges::busy, (x, rounds) -> x.least(rounds, w), 0, 99);
        }
    }

    static void promise17_whatIs0And1() {
        for (int rounds : new int[] {0, 1, 99}) range("what", Edges::busy, (x, what) -> x.least(rounds, what), 0, 1);
    }

    /** "(out takes one round)": no mul at all needs one round and costs nothing. */
    static void promise17_outAloneTakesOneRound() {
        DustSums x = new DustSums();
        least(x, 0, -9, -9);
        least(x, 1, 0, 0);
        least(x, 99, 0, 0);
    }

    /** "no more rounds than told": by NIGHT four in a chain take five with out. */
    static void promise17_justEnoughRoundsByNight() {
        DustSums x = with(CHAIN);
        for (int rounds = 0; rounds < 5; rounds++) least(x, rounds, -9, -9);
        least(x, 5, 56, 0);
        least(x, 99, 56, 0);
        load(x, "con A 1;mul B A A;out B;");
        least(x, 1, -9, -9);
        least(x, 2, 14, 0);
    }

    /** By TALK each takes "two rounds": nine for four in a chain, and one less is too few. */
    static void promise17_justEnoughRoundsByTalk() {
        DustSums x = with(CHAIN);
        prices(x, 10, 4, 13);
        least(x, 5, 56, 0);
        least(x, 6, 55, 1);
        least(x, 7, 54, 3);
        least(x, 8, 53, 7);
        least(x, 9, 52, 15);
        least(x, 99, 52, 15);
    }

    /** Side by side all may talk as soon as one may. */
    static void promise17_sideBySide() {
        DustSums x = with(BESIDE);
        prices(x, 10, 4, 13);
        least(x, 1, -9, -9);
        least(x, 2, 56, 0);
        least(x, 3, 52, 15);
    }

    /** "the least of several" sets, if they cost the same. */
    static void promise17_theLeastOfSeveralSets() {
        DustSums x = with(CHAIN);
        prices(x, 1, 1, 1);
        least(x, 6, 7, 1);
        prices(x, 10, 4, 14);
        least(x, 99, 56, 0);
        load(x, "con A 1;mul B A A;mul C B B;mul D A A;mul E D D;add F C E;out F;");
        prices(x, 1, 1, 1);
        least(x, 4, 6, 5);
    }

    /** A price of one more or one less turns the trade. */
    static void promise17_pricesAroundTheOther() {
        DustSums x = with("con A 1;mul B A A;out B;");
        prices(x, 500, 499, 999);
        least(x, 99, 999, 0);
        x.trade(2, 998);
        least(x, 99, 998, 1);
        x.trade(0, 498);
        least(x, 99, 997, 0);
    }

    static void promise17_leastAndGreatestPrices() {
        DustSums x = with(CHAIN);
        prices(x, 0, 0, 0);
        least(x, 5, 0, 0);
        least(x, 99, 0, 0);
        prices(x, 999, 999, 999);
        least(x, 5, 7992, 0);
        least(x, 9, 3996, 15);
        prices(x, 0, 999, 999);
        least(x, 99, 3996, 0);
    }

    /** A V that was deep in the program before takes no rounds, once it is a con. */
    static void promise17_nothingIsLeftOfTheProgramBefore() {
        DustSums x = with(CHAIN);
        least(x, 5, 56, 0);
        load(x, "con E 1;out E;");
        least(x, 1, 0, 0);
        load(x, "in E 0;mul A E E;out A;");
        least(x, 1, -9, -9);
        least(x, 2, 14, 0);
    }

    /** NONE is told of the price and of the set, and changes nothing. */
    static void promise17_noneForBoth() {
        refused("a price", program(CHAIN), x -> x.least(4, 0), -9);
        refused("a set", program(CHAIN), x -> x.least(4, 1), -9);
    }
}
