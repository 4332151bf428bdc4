/** Boundary cases of promises 14 and 15: spies, and what the end tells. */
final class SpyEdges extends Edges {
    private static Setup program(int ins, int muls, int m) {
        return x -> {
            load(x, textOf(ins, muls));
            x.modulus(m);
        };
    }

    private static DustSums object(int ins, int muls, int m) {
        DustSums x = new DustSums();
        program(ins, muls, m).on(x);
        return x;
    }

    private static void stateForAll(int ins, int muls, int m) {
        for (int hand = 0; hand < 3; hand++) {
            for (int what = 0; what < 2; what++) {
                int h = hand;
                int w = what;
                refused(m + " to the " + (2 * ins + 8 * muls), program(ins, muls, m), x -> x.spy(h, w), -2);
            }
        }
    }

    // ---- 14: spy

    static void promise14_handsAre0To2() {
        range("hand", Edges::fresh, (x, hand) -> x.spy(hand, 0), 0, 2);
        range("hand of a busy object", Edges::busy, (x, hand) -> x.spy(hand, 1), 0, 2);
    }

    static void promise14_whatIs0And1() {
        for (int hand = 0; hand < 3; hand++) {
            int h = hand;
            range("what", Edges::fresh, (x, what) -> x.spy(h, what), 0, 1);
        }
        range("what of a busy object", Edges::busy, (x, what) -> x.spy(2, what), 0, 1);
    }

    /** No LOTS: one RUN, whatever M is. */
    static void promise14_noLotsIsOneRow() {
        DustSums x = new DustSums();
        for (int m = 2; m <= 16; m++) {
            x.modulus(m);
            for (int hand = 0; hand < 3; hand++) {
                due("unlike", x.spy(hand, 1), 1);
                due("parted", x.spy(hand, 0), 0);
            }
        }
    }

    /** "M to the L 4096 at most": 2 LOTS, with every M. */
    static void promise14_oneInWithEveryM() {
        DustSums x = with("in A 0;out A;");
        for (int m = 2; m <= 16; m++) {
            x.modulus(m);
            for (int hand = 0; hand < 3; hand++) due(m + " times " + m, x.spy(hand, 1), m * m);
        }
    }

    /** 8 to the 4 is 4096, 9 to the 4 is above. */
    static void promise14_twoInsUpTo8() {
        DustSums x = object(2, 0, 8);
        due("hand 0 sees both", x.spy(0, 1), 4096);
        due("hand 1 sees A's and a share of B", x.spy(1, 1), 512);
        due("parted", x.spy(0, 0), 0);
        for (int m : new int[] {9, 10, 16}) stateForAll(2, 0, m);
    }

    /** 4 to the 6 is 4096, 5 to the 6 is above. */
    static void promise14_threeInsUpTo4() {
        DustSums x = object(3, 0, 4);
        due("hand 0", x.spy(0, 1), 4096);
        due("hand 2", x.spy(2, 1), 256);
        due("parted", x.spy(2, 0), 0);
        for (int m : new int[] {5, 6, 16}) stateForAll(3, 0, m);
    }

    /** 2 to the 8 is 256, 3 to the 8 is 6561. */
    static void promise14_fourInsWith2Alone() {
        DustSums x = object(4, 0, 2);
        due("hand 0", x.spy(0, 1), 256);
        due("hand 1", x.spy(1, 1), 32);
        for (int m : new int[] {3, 4, 16}) stateForAll(4, 0, m);
    }

    /** A mul takes 8 LOTS: with 2 in's 2 to the 12 is 4096, with 3 it is 2 to the 14. */
    static void promise14_oneMulWithUpToTwoIns() {
        for (int ins = 0; ins <= 2; ins++) {
            DustSums x = object(ins, 1, 2);
            for (int hand = 0; hand < 3; hand++) {
                due(ins + " in's are not STATE", x.spy(hand, 1) == -2 ? 1 : 0, 0);
                due(ins + " in's are alike", x.spy(hand, 0), 0);
            }
            stateForAll(ins, 1, 3);
        }
        stateForAll(3, 1, 2);
        stateForAll(4, 1, 2);
    }

    /** Powers whose lowest 32 or 64 bits would be 0 are above 4096 like all others. */
    static void promise14_powersBeyondAllNumbers() {
        for (int[] far : new int[][] {{0, 2, 2}, {0, 4, 2}, {4, 4, 2}, {0, 2, 4}, {0, 4, 4}, {0, 1, 16}, {0, 2, 16}, {0, 4, 16},
                {4, 4, 16}, {4, 3, 2}, {4, 0, 16}, {4, 4, 15}}) {
            stateForAll(far[0], far[1], far[2]);
        }
    }

    /** "the first of these: BAD .., STATE". */
    static void promise14_badComesBeforeState() {
        for (int hand : new int[] {-1, 3}) refused("hand " + hand, program(4, 4, 16), x -> x.spy(hand, 0), -1);
        for (int what : new int[] {-1, 2}) refused("what " + what, program(4, 4, 16), x -> x.spy(0, what), -1);
    }

    /** INPUTS are "taken modulo M": rows that differ by M are alike. */
    static void promise14_rowsThatDifferByM() {
        DustSums x = with("in A 0;out A;");
        for (int m = 2; m <= 15; m++) {
            x.modulus(m);
            x.input(0, 1, m);
            for (int hand = 0; hand < 3; hand++) due(m + " is 0", x.spy(hand, 0), 0);
            x.input(0, 1, m - 1);
            for (int hand = 0; hand < 3; hand++) due(m - 1 + " is not", x.spy(hand, 0), 1);
            x.input(0, 0, m - 1);
            for (int hand = 0; hand < 3; hand++) due("as the other row", x.spy(hand, 0), 0);
            x.input(0, 1, m);
            for (int hand = 0; hand < 3; hand++) due("the other way round", x.spy(hand, 0), 1);
            x.input(0, 0, 0);
        }
    }

    /** "PARTED, if some row of what is SEEN comes unlike often": not if the HAND sees nothing of what differs. */
    static void promise14_partedOnlyByWhatAHandSees() {
        DustSums x = with("in A 0;con B 1;out B;");
        x.input(0, 1, 1);
        due("its own", x.spy(0, 0), 1);
        due("one share tells nothing", x.spy(1, 0), 0);
        due("nor does the rest", x.spy(2, 0), 0);
        load(x, "in A 2;in B 1;sub C A B;out C;");
        x.modulus(3);
        x.input(0, 0, 2);
        x.input(0, 1, 1);
        x.input(1, 0, 1);
        due("2 less 1, and 1 less 0, for a third", x.spy(0, 0), 0);
        due("hand 1 has B", x.spy(1, 0), 1);
        due("hand 2 has A", x.spy(2, 0), 1);
        x.input(1, 1, 1);
        due("the end differs", x.spy(0, 0), 1);
    }

    /** What the END leaves alike, one HAND's SHARES leave alike: 0 times 0 and 1 times 0, but not 1 times 1. */
    static void promise14_productsWithTheSameEnd() {
        DustSums x = with("in A 0;in B 1;mul C A B;out C;");
        x.modulus(2);
        x.input(0, 1, 1);
        due("hand 2", x.spy(2, 0), 0);
        due("hand 1 has B alone", x.spy(1, 0), 0);
        due("hand 0 has A", x.spy(0, 0), 1);
        x.input(1, 1, 1);
        for (int hand = 0; hand < 3; hand++) due("1 times 1", x.spy(hand, 0), 1);
    }

    /** "(no LIES)", and over all LOTS, whatever is told of them. */
    static void promise14_toldLotsAndLiesDoNotMatter() {
        DustSums x = with("in A 0;out A;");
        due("unlike", x.spy(1, 1), 25);
        x.lot(0, 15);
        x.lie(1, 0, 1);
        x.input(0, 1, 5);
        due("unlike with lies", x.spy(1, 1), 25);
        due("alike with lies", x.spy(1, 0), 0);
        due("lies stay", x.count(4), 1);
        due("lots stay", x.lot(0, 0), 15);
    }

    // ---- 15: tells

    /** So many INPUTS, the first own ones of HAND 1, the others of HAND 0. */
    private static Setup inputs(int own, int others, int m) {
        StringBuilder text = new StringBuilder(own + others == 0 ? "con A 0;" : "");
        for (int i = 0; i < own + others; i++) text.append("in ").append((char) ('A' + i)).append(i < own ? " 1;" : " 0;");
        return x -> {
            load(x, text + "out A;");
            x.modulus(m);
        };
    }

    private static void tellsAll(int own, int others, int m, int want) {
        DustSums x = new DustSums();
        inputs(own, others, m).on(x);
        due(m + " to the " + others, x.tells(1, 1), want);
        due("the same END", x.tells(1, 0), own > 0 || others == 0 ? want : want / m);
    }

    static void promise15_handsAre0To2() {
        range("hand", Edges::fresh, (x, hand) -> x.tells(hand, 0), 0, 2);
        range("hand of a busy object", Edges::busy, (x, hand) -> x.tells(hand, 1), 0, 2);
    }

    static void promise15_whatIs0And1() {
        for (int hand = 0; hand < 3; hand++) {
            int h = hand;
            range("what", Edges::fresh, (x, what) -> x.tells(h, what), 0, 1);
            range("what of a busy object", Edges::busy, (x, what) -> x.tells(h, what), 0, 1);
        }
    }

    /** No other INPUTS: one row, with every M, though the HAND has four of its own. */
    static void promise15_noOthersIsOneRow() {
        for (int m = 2; m <= 16; m++) {
            tellsAll(0, 0, m, 1);
            tellsAll(4, 0, m, 1);
        }
    }

    /** "M to their number 4096 at most": 16 to the 3 is 4096. */
    static void promise15_threeOthersWithEveryM() {
        for (int m = 2; m <= 16; m++) {
            tellsAll(0, 3, m, m * m * m);
            tellsAll(1, 3, m, m * m * m);
            tellsAll(2, 2, m, m * m);
            tellsAll(3, 1, m, m);
        }
    }

    /** 8 to the 4 is 4096, 9 to the 4 is above. */
    static void promise15_fourOthersUpTo8() {
        for (int m = 2; m <= 8; m++) tellsAll(0, 4, m, m * m * m * m);
        for (int m = 9; m <= 16; m++) {
            for (int what = 0; what < 2; what++) {
                int w = what;
                refused(m + " to the 4", inputs(0, 4, m), x -> x.tells(1, w), -2);
            }
        }
    }

    /** Own INPUTS do not count: the HAND of all four is answered where others are not. */
    static void promise15_stateIsOfTheHandAsked() {
        DustSums x = new DustSums();
        inputs(0, 4, 16).on(x);
        due("hand 0 has all", x.tells(0, 1), 1);
        due("hand 1 has none", x.tells(1, 1), -2);
        due("hand 2 has none", x.tells(2, 1), -2);
    }

    /** "the first of these: BAD .., STATE". */
    static void promise15_badComesBeforeState() {
        for (int hand : new int[] {-1, 3}) refused("hand " + hand, inputs(0, 4, 16), x -> x.tells(hand, 0), -1);
        for (int what : new int[] {-1, 2}) refused("what " + what, inputs(0, 4, 16), x -> x.tells(1, what), -1);
    }

    /** "with its own INPUTS of ROW 0", taken modulo M; ROW 1 does not matter. */
    static void promise15_ownInputsAroundM() {
        DustSums x = with("in A 0;in B 1;mul C A B;out C;");
        x.input(1, 0, 3);
        x.input(0, 1, 2);
        for (int[] try5 : new int[][] {{4, 1}, {5, 5}, {6, 1}, {10, 5}, {15, 5}, {0, 5}}) {
            x.input(0, 0, try5[0]);
            due(try5[0] + " times others", x.tells(0, 0), try5[1]);
        }
    }

    /** "the same END as ROW 0", modulo M: at least the row that stands there, at most all. */
    static void promise15_fromOneRowToAll() {
        DustSums x = with("in A 0;in B 1;con C 0;mul D A C;out D;");
        due("0 times all", x.tells(1, 0), 5);
        due("0 times all others", x.tells(2, 0), 25);
        load(x, "in A 0;in B 1;sub C A B;out A;");
        x.input(0, 0, 14);
        due("hand 1 learns A", x.tells(1, 0), 1);
        due("hand 0 learns nothing of B", x.tells(0, 0), 5);
        x.modulus(2);
        due("modulo 2", x.tells(1, 0), 1);
        due("all modulo 2", x.tells(1, 1), 2);
    }

    /** "rows of all other INPUTS (0 .. M - 1 each)": each of them is tried once, with the least and the greatest M. */
    static void promise15_everyRowOfOthersIsTried() {
        DustSums x = with("in A 0;in B 1;mul C A B;sub D C A;add E D B;out E;");
        for (int m = 2; m <= 16; m++) {
            x.modulus(m);
            for (int b = 0; b < 2; b++) {
                x.input(0, 0, 2);
                x.input(1, 0, b);
                int same = 0;
                for (int pair = 0; pair < m * m; pair++) {
                    int first = pair / m;
                    int second = pair % m;
                    if (Math.floorMod(first * second - first + second - 2 * (b - 1) - b, m) == 0) same++;
                }
                due("pairs modulo " + m, x.tells(2, 0), same);
            }
        }
    }

    /** Own INPUTS keep their number wherever they stand among the others. */
    static void promise15_ownInputsAheadAndBehind() {
        for (int own = 0; own < 4; own++) {
            StringBuilder text = new StringBuilder();
            for (int i = 0; i < 4; i++) text.append("in ").append((char) ('A' + i)).append(i == own ? " 1;" : " 0;");
            char v = (char) ('A' + own);
            char other = own == 3 ? 'A' : 'D';
            DustSums x = with(text + "mul E " + v + " " + other + ";out E;");
            for (int i = 0; i < 4; i++) x.input(i, 0, 1);
            x.modulus(6);
            int[] same = {216, 36, 72, 108, 72, 36};
            for (int number = 0; number < 6; number++) {
                x.input(own, 0, number);
                due(number + " times another", x.tells(1, 0), same[number]);
            }
        }
    }

    /** "(no LIES)". */
    static void promise15_liesDoNotMatter() {
        DustSums x = with("in A 0;in B 1;mul C A B;out C;");
        x.input(0, 0, 1);
        due("b is 0", x.tells(0, 0), 1);
        x.lie(2, 0, 4);
        x.lie(3, 0, 1);
        due("lies", x.tells(0, 0), 1);
        due("they stay", x.count(4), 2);
        due("inputs stay", x.input(0, 0, 1), 1);
    }
}
