/** Promises 16 and 17: prices, and the least price within rounds. */
public final class TradesTest {
    private static final Checks CHECKS = new Checks("TradesTest");

    private static void due(String call, long got, long want) {
        CHECKS.due(call, got, want);
    }

    public static void main(String[] args) {
        trades();
        wrongCalls();
        chain();
        besideEachOther();
        unused();
        CHECKS.close();
    }

    private static void trades() {
        DustSums x = Checks.with("con A 1;mul B A A;out B;");
        int[] first = {10, 4, 20};
        for (int what = 0; what < 3; what++) {
            due("first", x.trade(what, 999), first[what]);
            due("most", x.trade(what, 0), 999);
            due("least", x.trade(what, first[what]), 0);
            for (int bad : new int[] {-1, 1000, Integer.MIN_VALUE, Integer.MAX_VALUE}) due("price " + bad, x.trade(what, bad), -1);
            due("unchanged", x.trade(what, first[what]), first[what]);
        }
        for (int bad : new int[] {-1, 3, Integer.MIN_VALUE, Integer.MAX_VALUE}) due("trade " + bad, x.trade(bad, 1), -1);
        due("night and words", x.least(99, 0), 14);
        x.trade(0, 999);
        x.trade(1, 999);
        x.trade(2, 999);
        due("talk", x.least(99, 0), 999);
        due("by talk", x.least(99, 1), 1);
        due("in haste", x.least(2, 0), 1998);
        due("by night", x.least(2, 1), 0);
    }

    private static void wrongCalls() {
        DustSums x = new DustSums();
        for (int bad : new int[] {-1, 100, Integer.MIN_VALUE, Integer.MAX_VALUE}) due("rounds " + bad, x.least(bad, 0), -1);
        for (int bad : new int[] {-1, 2, Integer.MIN_VALUE, Integer.MAX_VALUE}) due("what " + bad, x.least(0, bad), -1);
        due("out takes one", x.least(0, 0), -9);
        due("out takes one", x.least(0, 1), -9);
        due("price 0", x.least(1, 0), 0);
        due("no mul", x.least(99, 1), 0);
    }

    private static void chain() {
        DustSums x = Checks.with("con A 1;mul B A A;mul C B A;add D C B;mul E D A;mul F E A;sub G F A;out G;");
        x.trade(2, 7);
        int[] sets = {-9, -9, -9, -9, -9, 0, 1, 3, 7, 15, 15};
        int[] prices = {-9, -9, -9, -9, -9, 56, 49, 42, 35, 28, 28};
        for (int rounds = 0; rounds < sets.length; rounds++) {
            due("set within " + rounds, x.least(rounds, 1), sets[rounds]);
            due("price within " + rounds, x.least(rounds, 0), prices[rounds]);
        }
        x.trade(2, 14);
        due("as dear: the least set", x.least(99, 1), 0);
        due("as dear: the price", x.least(99, 0), 56);
        due("4 more rounds by the program itself", x.item(7, 5), 5);
    }

    private static void besideEachOther() {
        DustSums x = Checks.with("con A 1;mul B A A;mul C B B;mul D A A;mul E A A;add F C D;add G F E;out G;");
        x.trade(2, 1);
        due("within 3: the two short ones talk", x.least(3, 1), 12);
        due("within 3", x.least(3, 0), 30);
        due("within 4", x.least(4, 1), 13);
        due("within 5", x.least(5, 1), 15);
        due("within 2", x.least(2, 1), -9);
    }

    /** Rounds are those of out: a mul that out does not wait for costs its price alone. */
    private static void unused() {
        DustSums x = Checks.with("con A 1;mul B A A;mul C B B;out A;");
        due("both have a price", x.least(1, 0), 28);
        x.trade(2, 3);
        due("both talk", x.least(1, 1), 3);
        due("both talk", x.least(1, 0), 6);
        due("out does not wait", x.least(0, 0), -9);
    }
}
