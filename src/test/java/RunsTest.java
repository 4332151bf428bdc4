/** Promises 11 to 15: the end, shares, what is seen, spies and what the end tells. */
public final class RunsTest {
    private static final Checks CHECKS = new Checks("RunsTest");

    private static void due(String call, long got, long want) {
        CHECKS.due(call, got, want);
    }

    public static void main(String[] args) {
        ends();
        longProgram();
        shares();
        sharesOfAnotherProgram();
        seen();
        liesSeen();
        spies();
        spyLimits();
        tells();
        tellsOfPrograms();
        tellsLimits();
        CHECKS.close();
    }

    private static void ends() {
        for (int m = 2; m <= 16; m++) {
            DustSums x = Checks.with("in A 0;in B 1;add C A B;sub D A B;mul E C D;con F 15;sub G E F;out G;");
            x.modulus(m);
            for (int round = 0; round < 8; round++) {
                int a = (round * 7 + m) % 16;
                int b = (round * 11 + 3) % 16;
                x.input(0, 0, a);
                x.input(1, 0, b);
                x.input(1, 1, (b + 1) % 16);
                for (int i = 0; i < 12; i++) x.lot(i, (i * (round + 5) + m) % 16);
                due("a a less b b less 15", x.end(), Math.floorMod(a * a - b * b - 15, m));
            }
        }
    }

    /** As many ITEMS, INPUTS and mul's as there may be, up to the last letter and the last LOT. */
    private static void longProgram() {
        DustSums x = Checks.with("in P 2;in O 0;in N 1;in M 2;mul L P O;mul K L N;mul J K M;mul I J P;con H 9;add G I H;"
            + "sub F G P;con E 14;add D F E;sub C D O;sub B C N;out B;");
        x.modulus(16);
        int[] numbers = {3, 5, 7, 11};
        for (int i = 0; i < 4; i++) x.input(i, 0, numbers[i]);
        int due = 3 * 5 * 7 * 11 * 3 + 9 - 3 + 14 - 5 - 7;
        due("16 items", x.end(), due % 16);
        for (int i = 0; i < 40; i++) x.lot(i, (i * 7 + 3) % 16);
        due("16 items, by other lots", x.end(), due % 16);
        int old = x.share(7, 0);
        x.lot(38, (38 * 7 + 3 + 1) % 16);
        due("the last but one lot is c0", x.share(7, 0), (old + 1) % 16);
        old = x.share(7, 1);
        x.lot(39, (39 * 7 + 3 + 1) % 16);
        due("the last lot is c1", x.share(7, 1), (old + 1) % 16);
        due("the end stays", x.end(), due % 16);
        due("the first letter from the end", x.share(0, 2), Math.floorMod(3 - 3 - 10, 16));
        due("out of 16", x.share(15, 0), x.share(14, 0));
        x.lie(15, 2, 15);
        due("a lie in the last item", x.end(), (due + 15) % 16);
        Checks.load(x, "con A 1;in P 0;out P;");
        x.input(0, 0, 13);
        due("out P", x.end(), 13);
    }

    private static void sharesOfAnotherProgram() {
        DustSums x = Checks.with("in A 0;out A;");
        x.input(0, 0, 4);
        x.lot(0, 1);
        x.lot(1, 1);
        row("A 4", x, 0, 1, 1, 2);
        Checks.load(x, "con A 3;out A;");
        row("A 3", x, 0, 3, 0, 0);
        row("out A", x, 1, 3, 0, 0);
        due("end", x.end(), 3);
    }

    private static void row(String name, DustSums x, int item, int... want) {
        for (int hand = 0; hand < 3; hand++) due(name + " of hand " + hand, x.share(item, hand), want[hand]);
    }

    /** Modulo 10, so that the numbers can be checked by eye. */
    private static DustSums example() {
        DustSums x = Checks.with("in A 1;con B 7;in C 2;add D A B;sub E B C;mul F D E;out F;");
        x.modulus(10);
        x.input(0, 0, 4);
        x.input(1, 0, 15);
        int[] lots = {3, 9, 8, 6, 1, 2, 3, 4, 15, 6, 7, 8};
        for (int i = 0; i < lots.length; i++) x.lot(i, lots[i]);
        return x;
    }

    private static void shares() {
        DustSums x = example();
        row("A 4", x, 0, 3, 9, 2);
        row("B 7", x, 1, 7, 0, 0);
        row("C 5", x, 2, 8, 6, 1);
        row("D 11", x, 3, 0, 9, 2);
        row("E 2", x, 4, 9, 4, 9);
        // a 1 2 3 (6), b 4 5 6 (15), c 7 8, and 90 less 15 is 75: 5; D 5, E 7
        row("F 2", x, 5, 7 + 5 * 4 + 7 * 1 + 35 - 60, 8 + 5 * 5 + 7 * 2 - 40, 5 + 5 * 6 + 7 * 3 - 50);
        row("out", x, 6, 9, 7, 6);
        due("end", x.end(), 2);
        for (int bad : new int[] {-1, 7, 16, Integer.MIN_VALUE, Integer.MAX_VALUE}) due("share of item " + bad, x.share(bad, 0), -1);
        for (int bad : new int[] {-1, 3, Integer.MIN_VALUE, Integer.MAX_VALUE}) due("share of hand " + bad, x.share(0, bad), -1);
        x.lie(6, 1, 5);
        row("out with a lie", x, 6, 9, 2, 6);
        row("F as it was", x, 5, 9, 7, 6);
        due("end with a lie", x.end(), 7);
    }

    private static void row(DustSums x, int hand, int... want) {
        due("hand " + hand + " has seen", x.seen(hand, -1), want.length);
        for (int k = 0; k < want.length; k++) due("seen(" + hand + ", " + k + ")", x.seen(hand, k), want[k]);
        for (int k : new int[] {-2, want.length, 51, 99, Integer.MIN_VALUE, Integer.MAX_VALUE}) {
            due("seen(" + hand + ", " + k + ")", x.seen(hand, k), -1);
        }
    }

    private static void seen() {
        DustSums x = example();
        row(x, 0, 3, 8, 1, 4, 7, 9, 7, 9, 5, 9, 3, 9, 7, 6);
        row(x, 1, 3, 9, 2, 6, 2, 5, 8, 9, 7, 9, 5, 9, 3, 9, 7, 6);
        row(x, 2, 2, 8, 6, 1, 3, 6, 5, 9, 7, 9, 5, 9, 3, 9, 7, 6);
        for (int bad : new int[] {-1, 3, Integer.MIN_VALUE, Integer.MAX_VALUE}) {
            due("seen by " + bad, x.seen(bad, 0), -1);
            due("seen by " + bad, x.seen(bad, -1), -1);
        }
        row(Checks.with("con A 13;out A;"), 2, 3, 0, 0);
        DustSums most = Checks.with("in A 0;in B 0;in C 0;in D 0;mul E A B;mul F C D;mul G E F;mul H G G;out H;");
        due("most that can be seen", most.seen(0, -1), 51);
        for (int i = 0; i < 4; i++) most.input(i, 0, 1);
        most.lie(8, 2, 3);
        due("its last", most.seen(0, 50), (most.share(7, 2) + 3) % 5);
        most.lie(8, 2, 1);
        due("its last, bent once more", most.seen(0, 50), (most.share(7, 2) + 4) % 5);
        due("behind its last", most.seen(0, 51), -1);
        due("by others", most.seen(1, -1), 43);
    }

    private static void liesSeen() {
        DustSums x = example();
        x.lie(5, 2, 4);
        // D is 9, not 5: each share has 4 b more, hand 0 has 4 E more, too
        row("F bent", x, 5, (9 + 16 + 28) % 10, (7 + 20) % 10, (6 + 24) % 10);
        row("D as it was", x, 3, 0, 9, 2);
        row(x, 0, 3, 8, 1, 4, 7, 9, 7, 3, 5, 9, 3, 3, 7, 0);
        x.lie(5, 2, 15);
        due("lies of one hand add up", x.seen(0, 7), (9 + 19) % 10);
        due("bent end", x.end(), (2 + 19 * 2) % 10);
    }

    private static void spies() {
        DustSums x = Checks.with("in A 0;in B 1;out A;");
        x.modulus(3);
        // hand 0 sees A's three shares, its share of B, and A's shares again
        due("unlike of 0", x.spy(0, 1), 27);
        due("unlike of 1", x.spy(1, 1), 81);
        due("unlike of 2", x.spy(2, 1), 27);
        x.input(1, 1, 2);
        due("0 can't tell B", x.spy(0, 0), 0);
        due("1 put it in", x.spy(1, 0), 1);
        due("2 can't tell B", x.spy(2, 0), 0);
        x.input(1, 1, 0);
        x.input(0, 1, 3);
        for (int hand = 0; hand < 3; hand++) due("3 is 0 modulo 3", x.spy(hand, 0), 0);
        x.input(0, 1, 4);
        for (int hand = 0; hand < 3; hand++) due("the end tells A", x.spy(hand, 0), 1);
        x.lie(2, 0, 1);
        x.lot(0, 2);
        due("lies and lots that are told do not matter", x.spy(1, 1), 81);
        due("nor for parted", x.spy(2, 0), 1);
        DustSums hidden = Checks.with("in A 0;con B 1;out B;");
        hidden.input(0, 1, 1);
        due("0 knows what it put in", hidden.spy(0, 0), 1);
        due("1 sees nothing of it", hidden.spy(1, 0), 0);
        due("rows of 0", hidden.spy(0, 1), 25);
        due("rows of 1", hidden.spy(1, 1), 5);
        // a square of a number and of less the number
        DustSums square = Checks.with("in A 0;mul B A A;out B;");
        square.modulus(2);
        square.input(0, 1, 1);
        due("1 times 1 shows", square.spy(1, 0), 1);
        due("and at hand 0", square.spy(0, 0), 1);
        DustSums product = Checks.with("in A 0;in B 1;mul C A B;out C;");
        product.modulus(2);
        product.input(0, 1, 1);
        due("0 times 0 is 1 times 0", product.spy(1, 0), 0);
        due("0 times 0 is 1 times 0, for 2", product.spy(2, 0), 0);
        due("0 put it in", product.spy(0, 0), 1);
        // what was watched for another state must not be taken for this one's
        DustSums twice = Checks.with("in A 0;out A;");
        twice.modulus(2);
        twice.input(0, 0, 1);
        due("rows of 1", twice.spy(1, 1), 4);
        twice.input(0, 0, 0);
        twice.input(0, 1, 1);
        due("0 or 1", twice.spy(1, 0), 1);
        due("0 or 1 again", twice.spy(1, 0), 1);
        due("rows of 0", twice.spy(1, 1), 4);
        for (int bad : new int[] {-1, 3, Integer.MIN_VALUE, Integer.MAX_VALUE}) due("spy " + bad, x.spy(bad, 0), -1);
        for (int bad : new int[] {-1, 2, Integer.MIN_VALUE, Integer.MAX_VALUE}) due("spy what " + bad, x.spy(0, bad), -1);
    }

    private static void spyLimits() {
        DustSums x = Checks.with("in A 0;in B 0;out A;");
        x.modulus(8);
        due("8 to the 4 is 4096", x.spy(0, 1), 4096);
        x.modulus(9);
        due("9 to the 4 is above", x.spy(0, 1), -2);
        due("both answers", x.spy(0, 0), -2);
        due("BAD before STATE", x.spy(3, 0), -1);
        due("BAD before STATE", x.spy(0, 2), -1);
        Checks.load(x, "in A 0;in B 1;mul C A B;out C;");
        x.modulus(2);
        due("2 to the 12 is 4096", x.spy(0, 1), 2048);
        Checks.load(x, "in A 0;in B 1;in C 1;mul D A B;out D;");
        due("2 to the 14", x.spy(0, 1), -2);
        Checks.load(x, "con A 1;mul B A A;mul C A A;out C;");
        due("2 to the 16", x.spy(0, 1), -2);
        x.modulus(16);
        Checks.load(x, "con A 1;mul B A A;mul C B A;mul D A B;mul E A A;in F 0;in G 0;in H 0;in I 0;out E;");
        due("16 to the 40", x.spy(0, 1), -2);
        Checks.load(x, "in A 0;out A;");
        due("16 to the 2", x.spy(0, 1), 256);
        due("for hand 1", x.spy(1, 1), 256);
        x.input(0, 1, 1);
        due("shown", x.spy(1, 0), 1);
        Checks.load(x, "con A 0;out A;");
        due("no lots", x.spy(2, 1), 1);
        due("no inputs", x.spy(2, 0), 0);
    }

    private static void tells() {
        DustSums x = Checks.with("in A 0;in B 1;in C 1;mul D A B;add E D C;out E;");
        x.input(0, 0, 2);
        x.input(1, 0, 3);
        x.input(2, 0, 4);
        due("0: 2 b and c is 0, modulo 5", x.tells(0, 0), 5);
        due("0: all", x.tells(0, 1), 25);
        due("1: 3 a and 4 is 0", x.tells(1, 0), 1);
        due("1: all", x.tells(1, 1), 5);
        due("2: a b and c is 0", x.tells(2, 0), 25);
        due("2: all", x.tells(2, 1), 125);
        x.input(1, 0, 10);
        due("1: 0 a and 4 is 4", x.tells(1, 0), 5);
        x.lie(5, 0, 1);
        x.lie(3, 0, 1);
        due("no lies", x.tells(1, 0), 5);
        x.input(1, 1, 1);
        due("row 1 does not matter", x.tells(1, 0), 5);
        due("nothing is changed by it", x.input(0, 0, 0), 2);
        DustSums own = Checks.with("in A 2;con B 3;sub C B A;out C;");
        due("own inputs are not tried", own.tells(2, 0), 1);
        due("one row", own.tells(2, 1), 1);
        due("others try", own.tells(0, 1), 5);
        for (int bad : new int[] {-1, 3, Integer.MIN_VALUE, Integer.MAX_VALUE}) due("tells " + bad, x.tells(bad, 0), -1);
        for (int bad : new int[] {-1, 2, Integer.MIN_VALUE, Integer.MAX_VALUE}) due("tells what " + bad, x.tells(0, bad), -1);
    }

    /** Hand 2 has no input: how many numbers (or pairs) give the end of ROW 0, for each that may stand there. */
    private static void tellsOfPrograms() {
        DustSums x = Checks.with("in A 0;mul B A A;add C B A;out C;");
        // a a and a, modulo 5: 0 2 1 2 0
        int[] want = {2, 2, 1, 2, 2};
        for (int a = 0; a < 5; a++) {
            x.input(0, 0, a);
            due("a a and a as of " + a, x.tells(2, 0), want[a]);
        }
        Checks.load(x, "in A 0;mul B A A;sub C B A;out C;");
        // a a less a, modulo 5: 0 0 2 1 2
        want = new int[] {2, 2, 2, 1, 2};
        for (int a = 0; a < 5; a++) {
            x.input(0, 0, a);
            due("a a less a as of " + a, x.tells(2, 0), want[a]);
        }
        Checks.load(x, "in A 0;con B 2;mul C A B;out C;");
        x.modulus(6);
        due("2 a is 0 modulo 6", x.tells(2, 0), 2);
        Checks.load(x, "in A 0;in B 1;mul C A B;out C;");
        due("a b is 0 modulo 6", x.tells(2, 0), 15);
        x.input(0, 0, 15);
        x.input(1, 0, 3);
        due("a b is 3 modulo 6", x.tells(2, 0), 5);
        due("with a 3", x.tells(0, 0), 3);
        x.input(0, 0, 1);
        x.input(1, 0, 1);
        due("a b is 1 modulo 6", x.tells(2, 0), 2);
        due("with a 1", x.tells(0, 0), 1);
    }

    private static void tellsLimits() {
        DustSums x = Checks.with("in A 0;in B 0;in C 0;in D 1;mul E A B;mul F E C;mul G F D;mul H G G;out G;");
        x.modulus(16);
        due("1: 16 to the 3 is 4096", x.tells(1, 1), 4096);
        due("1: all, with D 0", x.tells(1, 0), 4096);
        due("0: 16 rows", x.tells(0, 1), 16);
        due("2: 16 to the 4", x.tells(2, 1), -2);
        due("2: the same END", x.tells(2, 0), -2);
        due("BAD before STATE", x.tells(2, 2), -1);
        x.modulus(8);
        due("2: 8 to the 4 is 4096", x.tells(2, 1), 4096);
        x.modulus(9);
        due("2: 9 to the 4", x.tells(2, 1), -2);
        x.modulus(7);
        due("2: a product of 4 is 0 modulo 7", x.tells(2, 0), 2401 - 1296);
    }
}
