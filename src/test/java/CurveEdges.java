/** Boundary cases of promises 18 to 21: fields, curves, points and bends. */
final class CurveEdges extends Edges {
    private static final int[] PRIMES = {5, 7, 11, 13};

    /** An object with that field, with a curve that is 0 all over. */
    private static Setup field(int q, int g, int n) {
        return x -> {
            x.field(2, 3);
            x.field(0, q);
            x.field(1, g);
            x.field(2, n);
        };
    }

    private static DustSums object(int q, int g, int n) {
        DustSums x = new DustSums();
        field(q, g, n).on(x);
        return x;
    }

    private static void bent(DustSums x) {
        x.curve(1, 2, 0);
        x.bend(2, 4);
        x.steal(0);
        x.steal(1);
        x.month(0);
    }

    // ---- 18: field

    static void promise18_whatIs0To2() {
        for (int what : new int[] {-1, 3, Integer.MIN_VALUE, Integer.MAX_VALUE}) {
            for (int v : new int[] {0, 1, 2, 3, 5, 7}) refused("field " + what, Edges::busy, x -> x.field(what, v), -1);
        }
        DustSums x = new DustSums();
        due("Q", x.field(0, 7), 7);
        due("g", x.field(1, 1), 1);
        due("n", x.field(2, 5), 5);
    }

    /** "a prime Q (5, 7, 11, 13": "no such prime" for all others. */
    static void promise18_qIs5Or7Or11Or13() {
        for (int v = -2; v <= 20; v++) {
            int q = v;
            if (q == 5 || q == 7 || q == 11 || q == 13) {
                due("Q " + q, object(7, 1, 3).field(0, q), 7);
            } else {
                refused("Q " + q, field(7, 1, 3), x -> x.field(0, q), -1);
            }
        }
        for (int q : new int[] {23, 101, Integer.MIN_VALUE, Integer.MAX_VALUE}) refused("Q " + q, Edges::busy, x -> x.field(0, q), -1);
    }

    /** "DEGREE g (0 .. 2". */
    static void promise18_gIs0To2() {
        range("g", Edges::fresh, (x, g) -> x.field(1, g), 0, 2);
        range("g of a busy object", Edges::busy, (x, g) -> x.field(1, g), 0, 2);
    }

    /** "n 3 .. 6". */
    static void promise18_nIs3To6() {
        for (int q : new int[] {7, 11, 13}) range("n with Q " + q, field(q, 2, 4), (x, n) -> x.field(2, n), 3, 6);
    }

    /** "below Q": with Q 5 no more than 4. */
    static void promise18_nIsBelowQ() {
        range("n with Q 5", field(5, 1, 3), (x, n) -> x.field(2, n), 3, 4);
        refused("6 with Q 5", field(5, 1, 3), x -> x.field(2, 6), -1);
    }

    /** "n not below Q (by either)": Q can't become 5 while n is 5 or 6. */
    static void promise18_qIsAboveN() {
        for (int n = 3; n <= 4; n++) due("Q 5 with n " + n, object(7, 1, n).field(0, 5), 7);
        for (int n = 5; n <= 6; n++) refused("Q 5 with n " + n, field(11, 1, n), x -> x.field(0, 5), -1);
        due("Q 7 with n 6", object(13, 1, 6).field(0, 7), 13);
    }

    /** "(Changes of Q, g, n make it 0 all over, nothing BENT, MONTH 0, nothing taken.)" */
    static void promise18_changesMakeAll0() {
        for (int[] change : new int[][] {{0, 5}, {0, 13}, {1, 0}, {1, 2}, {2, 3}, {2, 6}}) {
            DustSums x = object(7, 1, 4);
            bent(x);
            x.field(change[0], change[1]);
            for (int hand = 0; hand < 3; hand++) {
                due("point", x.point(hand), 0);
                due("bend", x.bend(hand, 0), 0);
            }
            due("month", x.count(5), 0);
            due("taken", x.count(7), 0);
            due("known", x.known(0), 0);
            due("safe", x.known(1), change[0] == 1 ? change[1] : 1);
        }
    }

    /** What was BENT of a HAND that is not there for a while does not come back with it. */
    static void promise18_handsThatComeBackAreUnbent() {
        DustSums x = object(7, 1, 6);
        x.bend(5, 3);
        x.field(2, 3);
        due("gone", x.point(5), -1);
        x.field(2, 6);
        due("point", x.point(5), 0);
        due("bend", x.bend(5, 0), 0);
    }

    /** After a change 29 MONTHS and 30 POINTS are there again. */
    static void promise18_changesMakeRoomForMonthsAndThieves() {
        DustSums x = new DustSums();
        for (int i = 0; i < 29; i++) x.month(0);
        for (int i = 0; i < 30; i++) x.steal(0);
        due("month", x.month(0), -3);
        due("steal", x.steal(0), -3);
        x.field(1, 2);
        for (int i = 1; i <= 29; i++) due("month again", x.month(0), i);
        for (int i = 1; i <= 30; i++) due("steal again", x.steal(0), i);
        due("month 30", x.month(0), -3);
        due("a 31st", x.steal(0), -3);
    }

    static void promise18_refusedChangesMakeNothing0() {
        for (int[] change : new int[][] {{0, 6}, {0, 9}, {0, 5}, {1, -1}, {1, 3}, {2, 2}, {2, 7}, {3, 5}}) {
            refused("field " + change[0] + " " + change[1], CurveEdges::bent, x -> x.field(change[0], change[1]), -1);
        }
    }

    /** A field is of curves alone: the program and what belongs to it stay. */
    static void promise18_programsStay() {
        DustSums x = new DustSums();
        busy(x);
        x.field(0, 13);
        due("items", x.count(0), 4);
        due("lies", x.count(4), 2);
        due("bytes", x.count(6), 7);
        due("input", x.input(0, 0, 0), 15);
        due("T", x.trade(2, 0), 17);
        due("M", x.modulus(5), 2);
        due("trace", x.trace(), 100001);
    }

    // ---- 19: curve

    /** "(each 0 .. Q - 1". */
    static void promise19_numbersAreBelowQ() {
        for (int q : PRIMES) {
            range("secret", field(q, 2, 3), (x, v) -> x.curve(v, 1, 1), 0, q - 1);
            range("c1", field(q, 2, 4), (x, v) -> x.curve(1, v, 1), 0, q - 1);
            range("c2", field(q, 2, 4), (x, v) -> x.curve(1, 1, v), 0, q - 1);
        }
    }

    /** "c1 with g 0 .. must be 0, else BAD". */
    static void promise19_withG0OnlyASecret() {
        range("secret", field(7, 0, 5), (x, v) -> x.curve(v, 0, 0), 0, 6);
        range("c1", field(7, 0, 5), (x, v) -> x.curve(3, v, 0), 0, 0);
        range("c2", field(7, 0, 5), (x, v) -> x.curve(3, 0, v), 0, 0);
        for (int v = 1; v < 7; v++) {
            int c = v;
            refused("c1 " + c, field(7, 0, 5), x -> x.curve(3, c, 0), -1);
            refused("c2 " + c, field(7, 0, 5), x -> x.curve(3, 0, c), -1);
        }
    }

    /** "c2 with g below 2 must be 0": c1 is free with g 1. */
    static void promise19_withG1NoC2() {
        range("c1", field(7, 1, 5), (x, v) -> x.curve(3, v, 0), 0, 6);
        range("c2", field(7, 1, 5), (x, v) -> x.curve(3, 2, v), 0, 0);
        for (int v = 1; v < 7; v++) {
            int c = v;
            refused("c2 " + c, CurveEdges::bent, x -> x.curve(3, 2, c), -1);
        }
    }

    /** "how many POINTS": the fewest and the most. */
    static void promise19_pointsAre3To6() {
        for (int n = 3; n <= 6; n++) due("points", object(7, 1, n).curve(1, 1, 0), n);
    }

    /** "nothing is BENT", even if the curve is the same; what thieves took and the MONTH stay. */
    static void promise19_nothingIsBentAnyMore() {
        DustSums x = new DustSums();
        bent(x);
        for (int hand = 0; hand < 5; hand++) x.bend(hand, 6);
        due("curve", x.curve(1, 2, 0), 5);
        for (int hand = 0; hand < 5; hand++) {
            due("point", x.point(hand), (1 + 2 * (hand + 1)) % 7);
            due("bend", x.bend(hand, 0), 0);
        }
        due("taken", x.count(7), 2);
        due("month", x.count(5), 1);
        due("known", x.known(0), 1);
    }

    static void promise19_refusedCurvesLeaveTheBends() {
        for (int[] c : new int[][] {{-1, 0, 0}, {7, 0, 0}, {0, -1, 0}, {0, 7, 0}, {0, 0, -1}, {0, 0, 1}, {0, 0, 7}}) {
            refused("curve", CurveEdges::bent, x -> x.curve(c[0], c[1], c[2]), -1);
        }
    }

    // ---- 20: point

    /** "HAND h (0 .. n - 1". */
    static void promise20_handsAreBelowN() {
        for (int n = 3; n <= 6; n++) range("point of " + n, field(7, 1, n), (x, hand) -> x.point(hand), 0, n - 1);
        for (int n = 3; n <= 4; n++) range("point of " + n, field(5, 2, n), (x, hand) -> x.point(hand), 0, n - 1);
    }

    /** "secret and c1 (h + 1) and c2 (h + 1)(h + 1), modulo Q": from 0 to the greatest that can come before modulo. */
    static void promise20_pointsAreModuloQ() {
        for (int q : PRIMES) {
            int n = Math.min(6, q - 1);
            DustSums x = object(q, 2, n);
            int[][] curves = {{0, 0, 0}, {q - 1, 0, 0}, {0, q - 1, 0}, {0, 0, q - 1}, {q - 1, 1, 0}, {q - 1, q - 1, q - 1}};
            for (int[] c : curves) {
                x.curve(c[0], c[1], c[2]);
                for (int hand = 0; hand < n; hand++) {
                    int h = hand + 1;
                    due("point " + hand + " of Q " + q, x.point(hand), (c[0] + c[1] * h + c[2] * h * h) % q);
                }
            }
        }
    }

    /** "(as BENT)", modulo Q. */
    static void promise20_bentPointsAreModuloQ() {
        for (int q : PRIMES) {
            DustSums x = object(q, 0, 3);
            for (int secret = 0; secret < q; secret++) {
                x.curve(secret, 0, 0);
                x.bend(1, 1);
                x.bend(2, q - 1);
                due("unbent", x.point(0), secret);
                due("one more", x.point(1), (secret + 1) % q);
                due("one less", x.point(2), (secret + q - 1) % q);
            }
        }
    }

    // ---- 21: bend

    static void promise21_handsAreBelowN() {
        for (int n = 3; n <= 6; n++) range("bend of " + n, field(7, 1, n), (x, hand) -> x.bend(hand, 1), 0, n - 1);
        range("bend of a busy object", Edges::busy, (x, hand) -> x.bend(hand, 1), 0, 5);
    }

    /** "BENT by v (0 .. Q - 1)". */
    static void promise21_numbersAreBelowQ() {
        for (int q : PRIMES) {
            range("bend by", field(q, 1, 4), (x, v) -> x.bend(0, v), 0, q - 1);
            range("bend of the last", field(q, 1, 4), (x, v) -> x.bend(3, v), 0, q - 1);
        }
        range("bend of one that is bent", Edges::busy, (x, v) -> x.bend(4, v), 0, 10);
    }

    /** "in all": not on top of what it was; 0 makes it straight. */
    static void promise21_bentInAll() {
        DustSums x = new DustSums();
        x.curve(3, 1, 0);
        int was = 0;
        for (int v : new int[] {6, 6, 1, 0, 5, 0}) {
            due("bend", x.bend(4, v), was);
            due("point", x.point(4), (3 + 5 + v) % 7);
            was = v;
        }
    }

    static void promise21_eachHandIsBentAlone() {
        DustSums x = object(13, 1, 6);
        for (int hand = 0; hand < 6; hand++) due("first", x.bend(hand, hand + 7), 0);
        for (int hand = 0; hand < 6; hand++) due("point", x.point(hand), hand + 7);
        for (int hand = 0; hand < 6; hand++) due("kept", x.bend(hand, 0), hand + 7);
    }
}
