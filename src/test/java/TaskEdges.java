/** Boundary cases of promises 5 to 10: items, the modulus, inputs, lots and lies. */
final class TaskEdges extends Edges {
    private static final String EACH_KIND = "in A 2;con P 15;add B A P;sub C B A;mul D C B;out D;";

    // ---- 5: item

    static void promise05_itemsAreFromTheFirstToTheLast() {
        range("item", Edges::fresh, (x, i) -> x.item(i, 0), 0, 1);
        range("item of four", Edges::busy, (x, i) -> x.item(i, 5), 0, 3);
        range("item of sixteen", program("con A 1;con B 1;con C 1;con D 1;con E 1;con F 1;con G 1;con H 1;con I 1;con J 1;con K 1;"
            + "con L 1;con M 1;con N 1;con O 1;out O;"), (x, i) -> x.item(i, 1), 0, 15);
    }

    static void promise05_whatIs0To5() {
        for (int item = 0; item < 6; item++) {
            int i = item;
            range("what", program(EACH_KIND), (x, what) -> x.item(i, what), 0, 5);
        }
    }

    /** The ITEMS of a longer program before are no ITEMS any more. */
    static void promise05_itemsOfALongerProgramAreGone() {
        DustSums x = with(EACH_KIND);
        due("the sixth", x.item(5, 0), 5);
        load(x, "con A 0;out A;");
        due("the last", x.item(1, 0), 5);
        for (int i = 2; i < 6; i++) due("none", x.item(i, 0), -1);
    }

    /** "(NONE)", for each kind of ITEM that has no such thing. */
    static void promise05_noneWhereAnItemHasNoSuchThing() {
        DustSums x = with(EACH_KIND);
        int[][] items = {{0, 0, -9, -9, 2}, {1, 15, -9, -9, 15}, {2, 1, 0, 15, -9}, {3, 2, 1, 0, -9}, {4, 3, 2, 1, -9}, {5, 3, -9, -9, -9}};
        for (int i = 0; i < 6; i++) {
            for (int what = 0; what < 5; what++) due("item(" + i + ", " + what + ")", x.item(i, what), items[i][what]);
        }
    }

    /** "its first V (0 .. 15)": A and P, in every place. */
    static void promise05_lettersAre0To15() {
        DustSums x = with("con A 0;con P 0;add B A P;mul O P A;out P;");
        due("A", x.item(0, 1), 0);
        due("P", x.item(1, 1), 15);
        due("second A", x.item(2, 2), 0);
        due("third P", x.item(2, 3), 15);
        due("O", x.item(3, 1), 14);
        due("second P", x.item(3, 2), 15);
        due("third A", x.item(3, 3), 0);
        due("out P", x.item(4, 1), 15);
    }

    /** H and N are told as they stand in the text, not modulo M. */
    static void promise05_numbersAreAsInTheText() {
        for (int n = 0; n <= 15; n++) {
            DustSums x = with("con A " + n + ";in B " + n % 3 + ";out A;");
            x.modulus(2);
            due("N", x.item(0, 4), n);
            due("H", x.item(1, 4), n % 3);
        }
    }

    /** "DEEP: rounds: of in, con 0; .. of out as what it shows, one more": the least. */
    static void promise05_leastDeep() {
        DustSums x = with("in A 0;con B 0;add C A B;sub D C A;out D;");
        for (int i = 0; i < 4; i++) due("no mul", x.item(i, 5), 0);
        due("out", x.item(4, 5), 1);
    }

    /** "of mul one more": the deepest that four mul's can make. */
    static void promise05_mostDeep() {
        DustSums x = with("con A 1;mul B A A;mul C B A;mul D A C;mul E D D;add F E A;sub G A F;out G;");
        int[] deep = {0, 1, 2, 3, 4, 4, 4, 5};
        for (int i = 0; i < 8; i++) due("item " + i, x.item(i, 5), deep[i]);
    }

    /** "of add, sub the greater of both", on whichever side it is. */
    static void promise05_theGreaterOfBothOnEitherSide() {
        DustSums x = with("con A 1;mul B A A;add C A B;add D B A;sub E A B;sub F B A;mul G A B;mul H B A;add I G H;out A;");
        int[] deep = {0, 1, 1, 1, 1, 1, 2, 2, 2, 1};
        for (int i = 0; i < 10; i++) due("item " + i, x.item(i, 5), deep[i]);
    }

    /** A V that was deep in the program before is not, once it is a con. */
    static void promise05_noDepthIsLeftOfTheProgramBefore() {
        DustSums x = with("con A 1;mul B A A;mul C B B;out C;");
        due("out", x.item(3, 5), 3);
        load(x, "con C 1;in B 0;add A B C;mul D C B;out A;");
        int[] deep = {0, 0, 0, 1, 1};
        for (int i = 0; i < 5; i++) due("item " + i, x.item(i, 5), deep[i]);
    }

    // ---- 6: modulus

    /** "M (2 .. 16". */
    static void promise06_modulusIs2To16() {
        range("modulus", Edges::fresh, (x, v) -> x.modulus(v), 2, 16);
        range("modulus of a busy object", Edges::busy, (x, v) -> x.modulus(v), 2, 16);
        refused("0", Edges::busy, x -> x.modulus(0), -1);
    }

    /** "what it was", through all of them. */
    static void promise06_eachModulusIsToldByTheNext() {
        DustSums x = new DustSums();
        int was = 5;
        for (int v = 2; v <= 16; v++) {
            due("before " + v, x.modulus(v), was);
            was = v;
        }
        due("the same once more", x.modulus(16), 16);
        due("down", x.modulus(2), 16);
        due("2", x.modulus(2), 2);
    }

    /** INPUTS, LOTS and numbers of con are taken modulo the M of the RUN, not of when they were told. */
    static void promise06_numbersAreTakenByTheNewModulus() {
        DustSums x = with("in A 0;con B 15;add C A B;out C;");
        x.modulus(2);
        x.input(0, 0, 15);
        x.lot(0, 15);
        due("modulo 2", x.end(), 0);
        due("lot modulo 2", x.share(0, 0), 1);
        x.modulus(16);
        due("modulo 16", x.end(), 14);
        due("lot modulo 16", x.share(0, 0), 15);
    }

    // ---- 7: input

    /** "An INPUT (by its order)": none, one, four. */
    static void promise07_inputsAreAsManyAsIns() {
        for (int i : new int[] {Integer.MIN_VALUE, -1, 0, 1, Integer.MAX_VALUE}) {
            refused("no input " + i, Edges::fresh, x -> x.input(i, 0, 1), -1);
        }
        for (int ins = 1; ins <= 4; ins++) range("input of " + ins, program(textOf(ins, 0)), (x, i) -> x.input(i, 1, 1), 0, ins - 1);
    }

    /** Inputs are counted by their order, not by their ITEM. */
    static void promise07_orderIsThatOfTheIns() {
        DustSums x = with("con A 1;in B 0;con C 1;in D 0;sub E B D;out E;");
        due("first", x.input(0, 0, 4), 0);
        due("second", x.input(1, 0, 1), 0);
        due("no third", x.input(2, 0, 1), -1);
        due("4 less 1", x.end(), 3);
    }

    /** "a number of ROW 0 and one of ROW 1". */
    static void promise07_rowsAre0And1() {
        range("row", program(textOf(1, 0)), (x, row) -> x.input(0, row, 1), 0, 1);
        range("row of a busy object", Edges::busy, (x, row) -> x.input(1, row, 1), 0, 1);
    }

    /** "(0 .. 15, taken modulo M". */
    static void promise07_numbersAre0To15() {
        range("number", program(textOf(1, 0)), (x, v) -> x.input(0, 0, v), 0, 15);
        range("number of a busy object", Edges::busy, (x, v) -> x.input(1, 1, v), 0, 15);
    }

    /** Each of the eight numbers is one of its own. */
    static void promise07_allEightAreApart() {
        DustSums x = with(textOf(4, 0));
        for (int i = 0; i < 8; i++) due("first", x.input(i % 4, i / 4, 15 - i), 0);
        for (int i = 0; i < 8; i++) due("kept", x.input(i % 4, i / 4, 0), 15 - i);
        for (int i = 0; i < 8; i++) due("0 again", x.input(i % 4, i / 4, 0), 0);
    }

    /** "taken modulo M": M itself is 0, one less stays, one more is 1. */
    static void promise07_numbersAroundM() {
        DustSums x = with("in A 0;out A;");
        for (int m = 2; m <= 16; m++) {
            x.modulus(m);
            for (int v = m - 1; v <= Math.min(15, m + 1); v++) {
                x.input(0, 0, v);
                due(v + " modulo " + m, x.end(), v % m);
                due("told as it was told", x.input(0, 0, v), v);
            }
        }
    }

    // ---- 8: lot

    /** "LOTS 0 .. 39". */
    static void promise08_lotsAre0To39() {
        range("lot", Edges::fresh, (x, i) -> x.lot(i, 1), 0, 39);
        range("lot of a busy object", Edges::busy, (x, i) -> x.lot(i, 1), 0, 39);
    }

    /** "numbers 0 .. 15". */
    static void promise08_numbersAre0To15() {
        range("number", Edges::fresh, (x, v) -> x.lot(0, v), 0, 15);
        range("number of the last lot", Edges::busy, (x, v) -> x.lot(39, v), 0, 15);
    }

    static void promise08_allFortyAreApart() {
        DustSums x = new DustSums();
        for (int i = 0; i < 40; i++) due("first", x.lot(i, (i * 7 + 1) % 16), 0);
        for (int i = 0; i < 40; i++) due("kept", x.lot(i, 0), (i * 7 + 1) % 16);
        for (int i = 0; i < 40; i++) due("0 again", x.lot(i, 0), 0);
    }

    /** "taken modulo M": M itself is 0, one less stays, one more is 1. */
    static void promise08_numbersAroundM() {
        DustSums x = with("in A 0;out A;");
        for (int m = 2; m <= 16; m++) {
            x.modulus(m);
            for (int v = m - 1; v <= Math.min(15, m + 1); v++) {
                x.lot(0, v);
                due(v + " modulo " + m, x.share(0, 0), v % m);
                due("told as it was told", x.lot(0, v), v);
            }
        }
    }

    // ---- 9: lie

    private static void fullOfLies(DustSums x) {
        load(x, EACH_KIND);
        for (int i = 0; i < 6; i++) x.lie(4 + i % 2, i % 3, 1 + i);
    }

    /** "BAD: ITEMS but mul and out, too". */
    static void promise09_liesAreOfMulAndOutAlone() {
        for (int item = 0; item < 4; item++) {
            int i = item;
            refused("a lie in item " + i, program(EACH_KIND), x -> x.lie(i, 0, 1), -1);
        }
        range("a lie in item", program(EACH_KIND), (x, i) -> x.lie(i, 0, 1), 4, 5);
    }

    static void promise09_handsAre0To2() {
        range("hand, of mul", program(EACH_KIND), (x, hand) -> x.lie(4, hand, 1), 0, 2);
        range("hand, of out", Edges::busy, (x, hand) -> x.lie(3, hand, 1), 0, 2);
    }

    /** "adds something (1 .. 15". */
    static void promise09_numbersAre1To15() {
        range("number, of mul", program(EACH_KIND), (x, v) -> x.lie(4, 0, v), 1, 15);
        range("number, of out", Edges::busy, (x, v) -> x.lie(3, 2, v), 1, 15);
    }

    /** "LIES (6 at most)". */
    static void promise09_sixLiesAreTakenAndASeventhIsFull() {
        DustSums x = with(EACH_KIND);
        for (int i = 1; i <= 6; i++) due("lie", x.lie(4 + i % 2, i % 3, i), i);
        due("six", x.count(4), 6);
        for (int item = 4; item < 6; item++) {
            int i = item;
            for (int hand = 0; hand < 3; hand++) {
                int h = hand;
                refused("a seventh", TaskEdges::fullOfLies, y -> y.lie(i, h, 1), -3);
            }
        }
    }

    /** The same HAND in the same ITEM six times. */
    static void promise09_sixLiesInOnePlaceAddUp() {
        DustSums x = with("con A 0;out A;");
        x.modulus(16);
        for (int i = 1; i <= 6; i++) {
            due("lie", x.lie(1, 2, 15), i);
            due("end", x.end(), 15 * i % 16);
        }
        refused("a seventh", y -> {
            for (int i = 0; i < 6; i++) y.lie(1, 2, 15);
        }, y -> y.lie(1, 2, 15), -3);
    }

    /** "the first of these: BAD .., FULL", for each number that may be bad. */
    static void promise09_badComesBeforeFull() {
        for (int item : new int[] {-1, 0, 1, 2, 3, 6, Integer.MIN_VALUE, Integer.MAX_VALUE}) {
            refused("item " + item, TaskEdges::fullOfLies, x -> x.lie(item, 0, 1), -1);
        }
        for (int hand : new int[] {-1, 3}) refused("hand " + hand, TaskEdges::fullOfLies, x -> x.lie(5, hand, 1), -1);
        for (int v : new int[] {-1, 0, 16}) refused("number " + v, TaskEdges::fullOfLies, x -> x.lie(5, 0, v), -1);
    }

    /** "(1 .. 15, modulo M)": M itself bends nothing, one less and one more do. */
    static void promise09_numbersAroundM() {
        for (int m = 2; m <= 15; m++) {
            for (int v = m - 1; v <= Math.min(15, m + 1); v++) {
                DustSums x = with("con A 1;mul B A A;out B;");
                x.modulus(m);
                x.lie(2, 0, v);
                due("out bent by " + v + " modulo " + m, x.end(), (1 + v) % m);
                x.honest();
                x.lie(1, 0, v);
                due("mul bent by " + v + " modulo " + m, x.end(), (1 + v) % m);
            }
        }
    }

    /** "what it shows first in an ITEM (mul: of x": y is shown as it is. */
    static void promise09_mulIsBentInXAlone() {
        DustSums x = with("con A 3;con B 0;mul C A B;mul D B A;out D;");
        x.lie(2, 0, 1);
        due("x bent, times 0", x.share(2, 0) + x.share(2, 1) + x.share(2, 2), 0);
        x.lie(3, 0, 1);
        due("0 bent to 1, times 3", x.end(), 3);
    }

    // ---- 10: honest

    static void promise10_noneSixAndNoneAgain() {
        DustSums x = new DustSums();
        due("never lied", x.honest(), 0);
        fullOfLies(x);
        due("six", x.honest(), 6);
        due("none", x.count(4), 0);
        due("none again", x.honest(), 0);
        for (int i = 1; i <= 6; i++) due("six more", x.lie(5, 0, 1), i);
        due("and a seventh", x.lie(5, 0, 1), -3);
    }

    /** "There are no LIES": what a RUN shows is as if there had never been any. */
    static void promise10_nothingIsBentAnyMore() {
        refused("lies that were taken back", program(EACH_KIND), x -> {
            for (int i = 0; i < 6; i++) x.lie(4 + i % 2, i % 3, 1 + i);
            return x.honest();
        }, 6);
    }
}
