/** Promises 18 to 23: fields, curves, points, and what is opened. */
public final class CurvesTest {
    private static final Checks CHECKS = new Checks("CurvesTest");

    private static void due(String call, long got, long want) {
        CHECKS.due(call, got, want);
    }

    public static void main(String[] args) {
        fields();
        fieldResets();
        curves();
        points();
        bends();
        opened();
        openedFlat();
        openedAtTheEdge();
        products();
        CHECKS.close();
    }

    private static void fields() {
        DustSums x = new DustSums();
        for (int bad : new int[] {-1, 3, Integer.MIN_VALUE, Integer.MAX_VALUE}) due("field " + bad, x.field(bad, 5), -1);
        for (int v = 0; v < 14; v++) due("field 3 " + v, x.field(3, v), -1);
        for (int bad : new int[] {-7, 0, 1, 2, 3, 4, 6, 8, 9, 10, 12, 14, 17, Integer.MIN_VALUE, Integer.MAX_VALUE}) {
            due("Q " + bad, x.field(0, bad), -1);
        }
        for (int bad : new int[] {-1, 3, Integer.MIN_VALUE, Integer.MAX_VALUE}) due("g " + bad, x.field(1, bad), -1);
        for (int bad : new int[] {-1, 0, 2, 7, Integer.MIN_VALUE, Integer.MAX_VALUE}) due("n " + bad, x.field(2, bad), -1);
        due("5 points are not below 5", x.field(0, 5), -1);
        due("n", x.field(2, 4), 5);
        due("4 points are", x.field(0, 5), 7);
        due("n 5 is not below 5", x.field(2, 5), -1);
        due("n 6 is not below 5", x.field(2, 6), -1);
        due("n 3", x.field(2, 3), 4);
        due("Q 13", x.field(0, 13), 5);
        due("n 2", x.field(2, 2), -1);
        due("n 7", x.field(2, 7), -1);
        due("n 6", x.field(2, 6), 3);
        due("Q 11", x.field(0, 11), 13);
        due("Q 7", x.field(0, 7), 11);
        due("6 points are not below 5", x.field(0, 5), -1);
        due("g 2", x.field(1, 2), 1);
        due("g 0", x.field(1, 0), 2);
        due("g", x.field(1, 1), 0);
        due("Q", x.field(0, 7), 7);
        due("n", x.field(2, 6), 6);
    }

    private static void fieldResets() {
        int[][] changes = {{0, 11}, {1, 2}, {2, 4}, {0, 7}};
        for (int[] change : changes) {
            DustSums x = new DustSums();
            x.curve(1, 2, 0);
            x.bend(3, 4);
            x.steal(0);
            x.steal(1);
            x.month(0);
            x.field(change[0], change[1]);
            for (int h = 0; h < 4; h++) due("flat", x.point(h), 0);
            due("unbent", x.bend(3, 0), 0);
            due("month", x.count(5), 0);
            due("taken", x.count(7), 0);
            due("known", x.known(0), 0);
        }
        DustSums x = new DustSums();
        x.curve(1, 2, 0);
        x.bend(3, 4);
        x.steal(0);
        x.month(0);
        due("refused", x.field(2, 7), -1);
        due("curve stays", x.point(0), 3);
        due("bend stays", x.bend(3, 4), 4);
        due("month stays", x.count(5), 1);
        due("taken stays", x.count(7), 1);
    }

    private static void curves() {
        DustSums x = new DustSums();
        due("curve", x.curve(6, 6, 0), 5);
        due("c2 with g 1", x.curve(1, 1, 1), -1);
        int[] bad = {-1, 7, Integer.MIN_VALUE, Integer.MAX_VALUE};
        for (int v : bad) {
            due("secret " + v, x.curve(v, 0, 0), -1);
            due("c1 " + v, x.curve(0, v, 0), -1);
            due("c2 " + v, x.curve(0, 0, v), -1);
        }
        due("unchanged", x.point(1), (6 + 12) % 7);
        x.field(1, 0);
        due("c1 with g 0", x.curve(1, 1, 0), -1);
        due("c2 with g 0", x.curve(1, 0, 1), -1);
        x.field(2, 3);
        due("g 0", x.curve(6, 0, 0), 3);
        x.field(1, 2);
        x.field(2, 6);
        due("g 2", x.curve(6, 6, 6), 6);
        for (int v : bad) due("c2 " + v, x.curve(0, 0, v), -1);
        x.bend(5, 3);
        due("refused", x.curve(7, 0, 0), -1);
        due("still bent", x.bend(5, 3), 3);
        due("again", x.curve(6, 6, 6), 6);
        due("unbent", x.bend(5, 0), 0);
        due("c1 may be 0", x.curve(0, 0, 5), 6);
        x.steal(0);
        x.month(0);
        x.curve(1, 1, 1);
        due("thieves keep what they took", x.count(7), 1);
        due("the month stays", x.count(5), 1);
    }

    private static void points() {
        DustSums x = new DustSums();
        x.field(1, 2);
        for (int q : new int[] {7, 11, 13}) {
            x.field(0, q);
            x.field(2, 6);
            x.curve(q - 1, q - 2, q - 3);
            for (int h = 0; h < 6; h++) {
                due("point", x.point(h), (q - 1 + (q - 2) * (h + 1) + (q - 3) * (h + 1) * (h + 1)) % q);
                x.bend(h, q - 1);
                due("bent", x.point(h), (q - 2 + (q - 2) * (h + 1) + (q - 3) * (h + 1) * (h + 1)) % q);
            }
        }
        for (int bad : new int[] {-1, 6, Integer.MIN_VALUE, Integer.MAX_VALUE}) due("point " + bad, x.point(bad), -1);
        x.field(2, 3);
        due("the last of 3", x.point(2), 0);
        due("no fourth", x.point(3), -1);
    }

    private static void bends() {
        DustSums x = new DustSums();
        x.curve(1, 1, 0);
        due("bend", x.bend(4, 6), 0);
        due("point", x.point(4), 5);
        due("in all, not on top", x.bend(4, 1), 6);
        due("point", x.point(4), 0);
        due("others", x.point(3), 5);
        for (int bad : new int[] {-1, 5, Integer.MIN_VALUE, Integer.MAX_VALUE}) due("bend of " + bad, x.bend(bad, 1), -1);
        for (int bad : new int[] {-1, 7, Integer.MIN_VALUE, Integer.MAX_VALUE}) due("bend by " + bad, x.bend(0, bad), -1);
        due("unchanged", x.bend(0, 0), 0);
        due("straight", x.bend(4, 0), 1);
        due("point", x.point(4), 6);
        x.bend(4, 3);
        x.month(1);
        due("points of a fresh month open as before", x.open(31, 1), 16);
    }

    private static void opened() {
        DustSums x = new DustSums();
        x.field(0, 13);
        x.field(2, 6);
        x.curve(12, 5, 0);
        for (int set = 0; set < 64; set++) {
            boolean enough = Integer.bitCount(set) >= 2;
            due("secret of " + set, x.open(set, 0), enough ? 12 : -9);
            due("liars of " + set, x.open(set, 1), enough ? 0 : -9);
        }
        x.bend(0, 3);
        x.bend(5, 3);
        due("four of six agree: 2 times 3 is above 5", x.open(63, 0), 12);
        due("liars", x.open(63, 1), 33);
        due("three of five: 2 times 2 is not above 4", x.open(61, 0), -9);
        due("four of five", x.open(62, 0), 12);
        due("liars", x.open(62, 1), 32);
        due("liars outside are not named", x.open(30, 1), 0);
        due("three of four: 2 times 2 is above 3", x.open(29, 1), 1);
        due("two of three are no more than other two", x.open(37, 0), -9);
        due("any two have a curve", x.open(33, 0), (12 + 3 + 5 * 0) % 13);
        for (int bad : new int[] {-1, 64, 127, Integer.MIN_VALUE, Integer.MAX_VALUE}) due("set " + bad, x.open(bad, 0), -1);
        for (int bad : new int[] {-1, 2, Integer.MIN_VALUE, Integer.MAX_VALUE}) due("what " + bad, x.open(63, bad), -1);
        x.field(2, 3);
        due("all of 3", x.open(7, 0), 0);
        due("a hand that is not there", x.open(8, 0), -1);
    }

    private static void openedFlat() {
        DustSums x = new DustSums();
        x.field(1, 0);
        x.curve(4, 0, 0);
        due("one is enough", x.open(16, 0), 4);
        due("none is not", x.open(0, 0), -9);
        x.bend(0, 1);
        x.bend(1, 1);
        due("three of five", x.open(31, 0), 4);
        due("liars", x.open(31, 1), 3);
        due("two against two", x.open(15, 0), -9);
        due("two against one", x.open(7, 0), 5);
        due("the honest one lies to them", x.open(7, 1), 4);
        x.bend(1, 2);
        due("three of five, the others apart", x.open(31, 0), 4);
        x.bend(2, 3);
        due("two of five are most, but not enough", x.open(31, 0), -9);
        due("two of four: 4 is not above 4", x.open(30, 0), -9);
        due("two of three: 4 is above 3", x.open(28, 0), 4);
    }

    private static void openedAtTheEdge() {
        DustSums x = new DustSums();
        x.field(2, 4);
        x.field(0, 5);
        x.field(1, 2);
        x.curve(3, 4, 2);
        due("all four", x.open(15, 0), 3);
        for (int set : new int[] {7, 11, 13, 14}) due("three", x.open(set, 0), 3);
        for (int set : new int[] {3, 5, 9, 10, 12, 1, 0}) due("too few", x.open(set, 0), -9);
        x.bend(3, 1);
        due("three of four agree, as other three", x.open(15, 0), -9);
        DustSums six = new DustSums();
        six.field(0, 11);
        six.field(1, 2);
        six.field(2, 6);
        six.curve(10, 9, 8);
        six.bend(2, 10);
        due("five of six", six.open(63, 0), 10);
        due("liar", six.open(63, 1), 4);
        due("four of five: 2 times 2 is above 3", six.open(31, 1), 4);
        six.bend(5, 1);
        due("four of six: 2 times 2 is not above 4", six.open(63, 0), -9);
        due("four of five", six.open(31, 0), 10);
        due("four of five, the other liar", six.open(59, 1), 32);
    }

    private static void products() {
        DustSums x = new DustSums();
        x.curve(3, 5, 0);
        due("3 times 3", x.product(31, 0), 2);
        due("no liars", x.product(31, 1), 0);
        due("three are just enough", x.product(28, 0), 2);
        for (int set : new int[] {0, 1, 3, 24, 16}) due("STATE " + set, x.product(set, 0), -2);
        due("STATE for both", x.product(3, 1), -2);
        due("BAD before STATE", x.product(3, 2), -1);
        x.bend(1, 1);
        due("one of five lies: 2 times 2 is above 3", x.product(31, 0), 2);
        due("it is named", x.product(31, 1), 2);
        due("one of four", x.product(15, 0), -9);
        for (int bad : new int[] {-1, 32, Integer.MIN_VALUE, Integer.MAX_VALUE}) due("set " + bad, x.product(bad, 0), -1);
        for (int bad : new int[] {-1, 2, Integer.MIN_VALUE, Integer.MAX_VALUE}) due("what " + bad, x.product(31, bad), -1);
        DustSums flat = new DustSums();
        flat.field(1, 0);
        flat.curve(6, 0, 0);
        due("none", flat.product(0, 0), -2);
        due("one", flat.product(8, 0), 1);
        flat.bend(0, 1);
        flat.bend(3, 2);
        due("0, 1, 1, 1, 1: 6 and 2 is 1, squared 1", flat.product(31, 0), 1);
        due("only the one that squares to another number lies", flat.product(31, 1), 1);
        DustSums bowed = new DustSums();
        bowed.field(1, 2);
        bowed.curve(4, 1, 6);
        due("five for degree 4", bowed.product(31, 0), 2);
        due("four are too few", bowed.product(15, 0), -2);
        bowed.field(2, 6);
        bowed.curve(4, 1, 6);
        due("six", bowed.product(63, 0), 2);
        due("any five", bowed.product(47, 0), 2);
        due("four", bowed.product(39, 0), -2);
        bowed.field(2, 4);
        bowed.field(0, 5);
        due("never with n 4", bowed.product(15, 0), -2);
    }
}
