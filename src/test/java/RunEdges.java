/** Boundary cases of promises 11 to 13: the end, shares and what is seen. */
final class RunEdges extends Edges {
    private static final String LONGEST = "in P 2;in O 0;in N 1;in M 2;mul L P O;mul K L N;mul J K M;mul I J P;con H 9;add G I H;"
        + "sub F G P;con E 14;add D F E;sub C D O;sub B C N;out B;";
    private static final int[] ITS_INPUTS = {3, 5, 7, 11};
    private static final int ITS_END = 3 * 5 * 7 * 11 * 3 + 9 - 3 + 14 - 5 - 7;

    private static void longest(DustSums x) {
        load(x, LONGEST);
        for (int i = 0; i < 4; i++) x.input(i, 0, ITS_INPUTS[i]);
        for (int i = 0; i < 40; i++) x.lot(i, (i * 7 + 3) % 16);
    }

    private static void inputs(DustSums x, int first, int second) {
        x.input(0, 0, first);
        x.input(1, 0, second);
    }

    // ---- 11: end

    static void promise11_leastProgram() {
        DustSums x = new DustSums();
        for (int m = 2; m <= 16; m++) {
            x.modulus(m);
            due("0 modulo " + m, x.end(), 0);
        }
    }

    /** All 16 ITEMS, 4 INPUTS, 4 mul's and 40 LOTS, whatever number each LOT is. */
    static void promise11_longestProgramByAnyLots() {
        DustSums x = new DustSums();
        longest(x);
        for (int m = 2; m <= 16; m++) {
            x.modulus(m);
            due("modulo " + m, x.end(), ITS_END % m);
        }
        for (int i = 0; i < 40; i++) {
            for (int v : new int[] {0, 1, 15}) {
                x.lot(i, v);
                due("lot " + i + " " + v, x.end(), ITS_END % 16);
            }
        }
    }

    /** "NUMBERS are modulo M": a sum that reaches M is 0. */
    static void promise11_addPassesM() {
        DustSums x = with("in A 0;in B 1;add C A B;out C;");
        for (int m = 2; m <= 16; m++) {
            x.modulus(m);
            inputs(x, m - 1, 0);
            due("the greatest", x.end(), m - 1);
            inputs(x, m - 1, 1);
            due("one more", x.end(), 0);
            inputs(x, m - 1, m - 1);
            due("twice the greatest", x.end(), m - 2);
        }
    }

    /** A difference below 0 comes from above. */
    static void promise11_subPasses0() {
        DustSums x = with("in A 0;in B 1;sub C A B;out C;");
        for (int m = 2; m <= 16; m++) {
            x.modulus(m);
            inputs(x, 1, 1);
            due("just 0", x.end(), 0);
            inputs(x, 0, 1);
            due("one less", x.end(), m - 1);
            inputs(x, 0, m - 1);
            due("0 less the greatest", x.end(), 1);
        }
    }

    static void promise11_mulPassesM() {
        DustSums x = with("in A 0;in B 1;mul C A B;out C;");
        for (int i = 0; i < 12; i++) x.lot(i, 15 - i);
        for (int m = 2; m <= 16; m++) {
            x.modulus(m);
            inputs(x, m - 1, m - 1);
            due("the greatest by itself", x.end(), 1);
            inputs(x, m - 1, 0);
            due("by 0", x.end(), 0);
            inputs(x, m - 1, 1);
            due("by 1", x.end(), m - 1);
            inputs(x, 15, 15);
            due("15 by 15", x.end(), 225 % m);
        }
    }

    /** "con: HAND 0 has N", modulo M. */
    static void promise11_conPassesM() {
        for (int n = 0; n <= 15; n++) {
            DustSums x = with("con A " + n + ";out A;");
            for (int m = 2; m <= 16; m++) {
                x.modulus(m);
                due(n + " modulo " + m, x.end(), n % m);
            }
        }
    }

    /** "A RUN with the INPUTS of ROW 0". */
    static void promise11_row1IsNotRun() {
        DustSums x = with("in A 0;out A;");
        x.input(0, 1, 3);
        due("row 1 alone", x.end(), 0);
        x.input(0, 0, 4);
        due("row 0", x.end(), 4);
    }

    /** "out: all show their SHARES": a lie of each HAND bends THE END by as much. */
    static void promise11_eachHandsLieBendsTheEnd() {
        for (int hand = 0; hand < 3; hand++) {
            DustSums x = new DustSums();
            longest(x);
            x.modulus(16);
            x.lie(15, hand, 1);
            due("by 1", x.end(), (ITS_END + 1) % 16);
            x.lie(15, hand, 15);
            due("by 16", x.end(), ITS_END % 16);
        }
    }

    // ---- 12: share

    static void promise12_itemsAreFromTheFirstToTheLast() {
        range("share", Edges::fresh, (x, item) -> x.share(item, 0), 0, 1);
        range("share of four", Edges::busy, (x, item) -> x.share(item, 2), 0, 3);
        range("share of sixteen", RunEdges::longest, (x, item) -> x.share(item, 1), 0, 15);
    }

    static void promise12_handsAre0To2() {
        range("hand", Edges::fresh, (x, hand) -> x.share(0, hand), 0, 2);
        range("hand of a busy object", Edges::busy, (x, hand) -> x.share(3, hand), 0, 2);
    }

    /** "SHARES of HANDS 0, 1 are the next two LOTS, HAND 2 has the rest": a rest below 0, too. */
    static void promise12_theRestOfAnInputPasses0() {
        for (int m = 2; m <= 16; m++) {
            DustSums x = with("in A 0;out A;");
            x.modulus(m);
            for (int lot : new int[] {0, 1, m - 1}) {
                for (int input : new int[] {0, m - 1}) {
                    x.input(0, 0, input);
                    x.lot(0, lot);
                    x.lot(1, m - 1);
                    due("share 0", x.share(0, 0), lot);
                    due("share 1", x.share(0, 1), m - 1);
                    due("share 2", x.share(0, 2), Math.floorMod(input - lot - (m - 1), m));
                }
            }
        }
    }

    /** "con: HAND 0 has N, others 0", whatever the LOTS are. */
    static void promise12_conIsHand0sAlone() {
        DustSums x = with("con A 15;out A;");
        x.lot(0, 7);
        x.lot(1, 7);
        for (int item = 0; item < 2; item++) {
            due("hand 0", x.share(item, 0), 0);
            due("hand 1", x.share(item, 1), 0);
            due("hand 2", x.share(item, 2), 0);
        }
        x.modulus(16);
        due("hand 0 modulo 16", x.share(0, 0), 15);
        due("hand 1 modulo 16", x.share(0, 1), 0);
        due("hand 2 modulo 16", x.share(0, 2), 0);
    }

    /** "the next two LOTS", "the next eight LOTS": which LOTS each ITEM takes, up to the 40th. */
    static void promise12_eachItemTakesTheNextLots() {
        DustSums x = new DustSums();
        longest(x);
        x.modulus(16);
        for (int i = 0; i < 4; i++) {
            due("a's share 0", x.share(i, 0), (2 * i * 7 + 3) % 16);
            due("a's share 1", x.share(i, 1), ((2 * i + 1) * 7 + 3) % 16);
        }
        for (int i = 0; i < 4; i++) {
            int lot = 8 + 8 * i;
            for (int hand = 0; hand < 2; hand++) {
                int share = x.share(4 + i, hand);
                int was = x.lot(lot + 6 + hand, 0);
                due("c" + hand + " is lot " + (lot + 6 + hand), x.share(4 + i, hand), Math.floorMod(share - was, 16));
                x.lot(lot + 6 + hand, was);
            }
        }
        int rest = x.share(7, 2);
        int was = x.lot(39, 0);
        due("c2 is the rest", x.share(7, 2), (rest + was) % 16);
    }

    /** A LOT behind those that the program takes changes nothing. */
    static void promise12_lotsThatAreNotTaken() {
        DustSums x = with("in A 0;con B 1;mul C A B;out C;");
        x.input(0, 0, 4);
        int[] shares = new int[12];
        for (int i = 0; i < 12; i++) shares[i] = x.share(i / 3, i % 3);
        for (int i = 10; i < 40; i++) x.lot(i, 13);
        for (int i = 0; i < 12; i++) due("share", x.share(i / 3, i % 3), shares[i]);
        x.lot(9, 1);
        due("the last that is taken", x.share(2, 1), (shares[7] + 1) % 5);
    }

    /** Modulo 10: a mul with numbers that pass 0 and M in every place. */
    static void promise12_mulPasses0AndM() {
        DustSums x = with("in A 1;con B 7;in C 2;add D A B;sub E B C;mul F D E;out F;");
        x.modulus(10);
        inputs(x, 4, 15);
        int[] lots = {3, 9, 8, 6, 1, 2, 3, 4, 15, 6, 7, 8};
        for (int i = 0; i < lots.length; i++) x.lot(i, lots[i]);
        int[][] shares = {{3, 9, 2}, {7, 0, 0}, {8, 6, 1}, {0, 9, 2}, {9, 4, 9}, {9, 7, 6}, {9, 7, 6}};
        for (int item = 0; item < 7; item++) {
            for (int hand = 0; hand < 3; hand++) due("share(" + item + ", " + hand + ")", x.share(item, hand), shares[item][hand]);
        }
    }

    /** "of out what is shown"; "its own SHARES are as they were". */
    static void promise12_outShowsLiesModuloM() {
        DustSums x = with("con A 4;out A;");
        x.lie(1, 0, 1);
        x.lie(1, 2, 15);
        x.lie(1, 1, 4);
        int[] shown = {0, 4, 0};
        for (int hand = 0; hand < 3; hand++) {
            due("of A", x.share(0, hand), hand == 0 ? 4 : 0);
            due("of out", x.share(1, hand), shown[hand]);
        }
    }

    /** A V that is used behind a mul's lie is as the mul made it, and the mul's own x is as it was. */
    static void promise12_aLieInAMulLeavesWhatWasThereBefore() {
        DustSums x = with("con A 2;con B 3;mul C A B;add D C A;out D;");
        x.lie(2, 1, 1);
        int[] sums = new int[5];
        for (int i = 0; i < 15; i++) sums[i / 3] += x.share(i / 3, i % 3);
        int[] due = {2, 3, 9, 11, 11};
        for (int i = 0; i < 5; i++) due("item " + i, sums[i] % 5, due[i] % 5);
    }

    /** A V that the program before cut into three is HAND 0's alone, once it is a con. */
    static void promise12_nothingIsLeftOfTheProgramBefore() {
        DustSums x = with("in A 0;out A;");
        x.input(0, 0, 4);
        x.lot(0, 1);
        x.lot(1, 1);
        int[] cut = {1, 1, 2};
        for (int hand = 0; hand < 3; hand++) due("in", x.share(0, hand), cut[hand]);
        load(x, "con A 3;out A;");
        for (int hand = 0; hand < 3; hand++) due("con", x.share(0, hand), hand == 0 ? 3 : 0);
        due("end", x.end(), 3);
    }

    // ---- 13: seen

    static void promise13_handsAre0To2() {
        range("hand", Edges::fresh, (x, hand) -> x.seen(hand, -1), 0, 2);
        range("hand of a busy object", Edges::busy, (x, hand) -> x.seen(hand, 0), 0, 2);
    }

    /** "how many (k = -1), the k-th": from -1 to the last, for the least and the most that can be seen. */
    static void promise13_placesAreFromTheCountToTheLast() {
        for (int hand = 0; hand < 3; hand++) {
            int h = hand;
            range("k of 3", Edges::fresh, (x, k) -> x.seen(h, k), -1, 2);
            int busySeen = hand == 0 ? 14 : 16;
            range("k of a busy object", Edges::busy, (x, k) -> x.seen(h, k), -1, busySeen - 1);
        }
        String most = "in A 0;in B 0;in C 0;in D 0;mul E A B;mul F C D;mul G E F;mul H G G;out H;";
        range("k of 51", program(most), (x, k) -> x.seen(0, k), -1, 50);
        range("k of 43", program(most), (x, k) -> x.seen(1, k), -1, 42);
        refused("one behind 51", program(most), x -> x.seen(0, 51), -1);
    }

    /** The most that can be seen, up to the last: it is what HAND 2 shows of out. */
    static void promise13_theLastOf51() {
        DustSums x = with("in A 0;in B 0;in C 0;in D 0;mul E A B;mul F C D;mul G E F;mul H G G;out H;");
        x.modulus(16);
        for (int i = 0; i < 4; i++) x.input(i, 0, 2 * i + 1);
        for (int i = 0; i < 40; i++) x.lot(i, (i * 7 + 3) % 16);
        for (int hand = 0; hand < 3; hand++) {
            int last = x.seen(hand, -1) - 1;
            due("the last place", last, hand == 0 ? 50 : 42);
            for (int shown = 0; shown < 3; shown++) due("shown", x.seen(hand, last - 2 + shown), x.share(8, shown));
            x.lie(8, 2, 1);
            due("bent", x.seen(hand, last), (x.share(7, 2) + hand + 1) % 16);
        }
        due("1 by 3 by 5 by 7, by itself", x.end(), (105 * 105 + 3) % 16);
    }

    static void promise13_howManyOfEachItem() {
        DustSums x = with("con A 0;con B 1;add C A B;sub D A B;out D;");
        for (int hand = 0; hand < 3; hand++) due("of con, add and sub nothing", x.seen(hand, -1), 3);
        for (int own = 0; own < 3; own++) {
            load(x, "in A " + own + ";out A;");
            for (int hand = 0; hand < 3; hand++) due("in of " + own, x.seen(hand, -1), hand == own ? 6 : 4);
        }
        load(x, "con A 1;mul B A A;out B;");
        for (int hand = 0; hand < 3; hand++) due("mul", x.seen(hand, -1), 12);
    }

    /** Each number by its place, for a mul of numbers that pass 0 and M. */
    static void promise13_eachByItsPlace() {
        DustSums x = with("in A 1;con B 7;in C 2;add D A B;sub E B C;mul F D E;out F;");
        x.modulus(10);
        inputs(x, 4, 15);
        int[] lots = {3, 9, 8, 6, 1, 2, 3, 4, 15, 6, 7, 8};
        for (int i = 0; i < lots.length; i++) x.lot(i, lots[i]);
        int[][] seen = {
            {3, 8, 1, 4, 7, 9, 7, 9, 5, 9, 3, 9, 7, 6},
            {3, 9, 2, 6, 2, 5, 8, 9, 7, 9, 5, 9, 3, 9, 7, 6},
            {2, 8, 6, 1, 3, 6, 5, 9, 7, 9, 5, 9, 3, 9, 7, 6}};
        for (int hand = 0; hand < 3; hand++) {
            due("how many", x.seen(hand, -1), seen[hand].length);
            for (int k = 0; k < seen[hand].length; k++) due("seen(" + hand + ", " + k + ")", x.seen(hand, k), seen[hand][k]);
        }
    }

    /** A lie is seen modulo M, in the first that is shown of a mul and in out, and nowhere else. */
    static void promise13_liesAreSeenModuloM() {
        String text = "con A 4;con B 0;mul C A B;out C;";
        DustSums honest = with(text);
        DustSums x = with(text);
        x.lie(2, 0, 1);
        x.lie(3, 2, 5);
        for (int hand = 0; hand < 3; hand++) {
            for (int k = 0; k < 12; k++) {
                int was = honest.seen(hand, k);
                due("seen(" + hand + ", " + k + ")", x.seen(hand, k), k == 3 ? 0 : was);
            }
        }
        due("4 without the lie", honest.seen(0, 3), 4);
    }
}
