/** Boundary cases of promises 24 to 26: months, thieves and what they know. */
final class MonthEdges extends Edges {
    private static void steal(DustSums x, int... hands) {
        for (int hand : hands) x.steal(hand);
    }

    private static DustSums degree(int g) {
        DustSums x = new DustSums();
        x.field(1, g);
        return x;
    }

    private static void known(String call, DustSums x, int known, int safe) {
        due(call + ": known", x.known(0), known);
        due(call + ": safe", x.known(1), safe);
    }

    private static void lastMonth(DustSums x) {
        x.steal(0);
        for (int i = 0; i < 29; i++) x.month(0);
    }

    private static void allTaken(DustSums x) {
        for (int i = 0; i < 30; i++) x.steal(2);
    }

    // ---- 24: month

    static void promise24_freshIs0Or1() {
        range("month", Edges::fresh, (x, isFresh) -> x.month(isFresh), 0, 1);
        range("month of a busy object", Edges::busy, (x, isFresh) -> x.month(isFresh), 0, 1);
    }

    /** "MONTHS 0 .. 29"; "FULL: beyond 29". */
    static void promise24_month29IsTheLast() {
        for (int isFresh = 0; isFresh < 2; isFresh++) {
            int f = isFresh;
            DustSums x = new DustSums();
            for (int m = 1; m <= 29; m++) due("month", x.month(f), m);
            due("now", x.count(5), 29);
            refused("month 30", MonthEdges::lastMonth, y -> y.month(f), -3);
        }
    }

    /** "the first of these: BAD .., FULL". */
    static void promise24_badComesBeforeFull() {
        for (int f : new int[] {-1, 2, Integer.MIN_VALUE, Integer.MAX_VALUE}) refused("fresh " + f, MonthEdges::lastMonth, x -> x.month(f), -1);
    }

    /** A FRESH MONTH that is refused makes nothing anew. */
    static void promise24_refusedMonthsAreNotFresh() {
        DustSums x = new DustSums();
        lastMonth(x);
        due("refused", x.month(1), -3);
        x.steal(1);
        known("two of one run", x, 1, 0);
    }

    /** "all POINTS made anew with the same secret": what is opened stays. */
    static void promise24_freshPointsHaveTheSameSecret() {
        DustSums x = new DustSums();
        x.curve(3, 2, 0);
        x.bend(0, 1);
        x.month(1);
        due("secret", x.open(31, 0), 3);
        due("liars", x.open(31, 1), 1);
    }

    // ---- 25: steal

    /** "THIEVES take a HAND's POINT": HANDS 0 .. n - 1. */
    static void promise25_handsAreBelowN() {
        for (int hands = 3; hands <= 6; hands++) {
            int n = hands;
            range("steal of " + n, x -> x.field(2, n), (x, hand) -> x.steal(hand), 0, n - 1);
        }
        range("steal of a busy object", Edges::busy, (x, hand) -> x.steal(hand), 0, 5);
    }

    /** "(30 at most)". */
    static void promise25_thirtyAreTakenAndA31stIsFull() {
        DustSums x = new DustSums();
        for (int i = 1; i <= 30; i++) due("steal", x.steal(i % 5), i);
        due("taken", x.count(7), 30);
        for (int hand = 0; hand < 5; hand++) {
            int h = hand;
            refused("a 31st", MonthEdges::allTaken, y -> y.steal(h), -3);
        }
    }

    /** "(30 at most)" in all MONTHS, not in each. */
    static void promise25_thirtyInAllMonths() {
        DustSums x = new DustSums();
        for (int i = 1; i <= 29; i++) {
            due("steal", x.steal(0), i);
            due("month", x.month(i % 2), i);
        }
        due("the last", x.steal(0), 30);
        due("one more", x.steal(0), -3);
        refused("full in the next month, too", y -> {
            allTaken(y);
            y.month(1);
        }, y -> y.steal(1), -3);
    }

    /** "the first of these: BAD .., FULL". */
    static void promise25_badComesBeforeFull() {
        for (int hand : new int[] {-1, 5, Integer.MIN_VALUE, Integer.MAX_VALUE}) {
            refused("hand " + hand, MonthEdges::allTaken, x -> x.steal(hand), -1);
        }
    }

    /** The same POINT again is one more that was taken. */
    static void promise25_theSameAgainCounts() {
        DustSums x = new DustSums();
        for (int i = 1; i <= 5; i++) due("steal", x.steal(4), i);
        known("one hand", x, 0, 0);
    }

    // ---- 26: known

    static void promise26_whatIs0And1() {
        range("known", Edges::fresh, (x, what) -> x.known(what), 0, 1);
        range("known of a busy object", Edges::busy, (x, what) -> x.known(what), 0, 1);
    }

    /** "POINTS of more than g HANDS": g are not enough, one more is. */
    static void promise26_gHandsAreNotEnoughAndOneMoreIs() {
        for (int g = 0; g <= 2; g++) {
            DustSums x = degree(g);
            for (int taken = 0; taken < 5; taken++) {
                known(taken + " hands, g " + g, x, taken > g ? 1 : 0, Math.max(0, g - taken));
                x.steal(taken);
            }
        }
    }

    /** HANDS are counted, not POINTS: the same in several MONTHS of a run is one. */
    static void promise26_theSameHandIsOne() {
        for (int g = 1; g <= 2; g++) {
            DustSums x = degree(g);
            for (int i = 0; i < 29; i++) {
                x.steal(3);
                x.month(0);
            }
            known("one hand 29 times, g " + g, x, 0, g - 1);
        }
    }

    /** "run of MONTHS without a FRESH one between": from month 0 to 29, if none is FRESH. */
    static void promise26_theLongestRun() {
        DustSums x = new DustSums();
        lastMonth(x);
        known("month 29", x, 0, 0);
        x.steal(4);
        known("a second hand", x, 1, 0);
    }

    /** What was taken just before a FRESH MONTH and in it does not come together. */
    static void promise26_aFreshMonthParts() {
        DustSums x = new DustSums();
        steal(x, 0);
        x.month(1);
        known("nothing of now", x, 0, 1);
        steal(x, 1);
        known("one before, one now", x, 0, 0);
        x.month(0);
        steal(x, 1);
        known("the same one", x, 0, 0);
        steal(x, 0);
        known("another of the same run", x, 1, 0);
    }

    /** Each MONTH FRESH: one POINT in each never tells it, with g 0 the first one does. */
    static void promise26_allMonthsFresh() {
        for (int g = 0; g <= 2; g++) {
            DustSums x = degree(g);
            for (int i = 0; i < 29; i++) {
                x.steal(i % 5);
                x.month(1);
            }
            known("29 points, g " + g, x, g == 0 ? 1 : 0, g);
        }
    }

    /** What they know they know: a FRESH MONTH comes too late. */
    static void promise26_knownStaysKnown() {
        for (int g = 0; g <= 2; g++) {
            DustSums x = degree(g);
            steal(x, 0, 1, 2);
            x.month(1);
            known("g " + g, x, 1, 0);
            x.month(1);
            known("g " + g, x, 1, 0);
            x.curve(0, 0, 0);
            known("with a curve told, g " + g, x, 1, 0);
        }
    }

    /** "SAFE: how many more HANDS they could take now": as many at once, and one more tells it. */
    static void promise26_safeIsJustHowManyMore() {
        for (int g = 0; g <= 2; g++) {
            for (int before = 0; before <= g; before++) {
                DustSums x = degree(g);
                for (int hand = 0; hand < before; hand++) x.steal(hand);
                int safe = x.known(1);
                due("safe", safe, g - before);
                for (int more = 0; more < safe; more++) x.steal(before + more);
                known("as many more", x, 0, 0);
                x.steal(4);
                known("one more", x, 1, 0);
            }
        }
    }

    /** "(0, if they know)". */
    static void promise26_safeIs0IfTheyKnow() {
        DustSums x = degree(2);
        steal(x, 0, 1, 2);
        x.month(1);
        known("nothing taken of now", x, 1, 0);
    }
}
