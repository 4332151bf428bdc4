/** Promises 1 to 10: a new object, the text, the program, and what a run needs. */
public final class ProgramsTest {
    private static final Checks CHECKS = new Checks("ProgramsTest");

    private static void due(String call, long got, long want) {
        CHECKS.due(call, got, want);
    }

    public static void main(String[] args) {
        newObject();
        typing();
        clearing();
        programTaken();
        programAtFault();
        faults();
        goodTexts();
        items();
        modulus();
        inputs();
        lots();
        lies();
        CHECKS.close();
    }

    private static void newObject() {
        DustSums x = new DustSums();
        int[] counts = {2, 0, 0, 0, 0, 0, 0, 0};
        for (int what = 0; what < counts.length; what++) due("new count(" + what + ")", x.count(what), counts[what]);
        int[][] items = {{1, 0, -9, -9, 0, 0}, {5, 0, -9, -9, -9, 1}};
        for (int i = 0; i < 2; i++) {
            for (int what = 0; what < 6; what++) due("new item(" + i + ", " + what + ")", x.item(i, what), items[i][what]);
        }
        due("new modulus", x.modulus(2), 5);
        due("new N", x.trade(0, 0), 10);
        due("new W", x.trade(1, 0), 4);
        due("new T", x.trade(2, 0), 20);
        for (int i = 0; i < 40; i++) due("new lot", x.lot(i, 1), 0);
        for (int h = 0; h < 5; h++) due("new point", x.point(h), 0);
        due("new n", x.point(5), -1);
        for (int h = 0; h < 5; h++) due("new bend", x.bend(h, 1), 0);
        due("new Q", x.field(0, 11), 7);
        due("new g", x.field(1, 0), 1);
        due("new n", x.field(2, 6), 5);
        due("new trace", x.trace(), 0);
        due("new honest", x.honest(), 0);
        due("new end", x.end(), 0);
    }

    private static void typing() {
        DustSums x = new DustSums();
        due("n 0", x.type(0, 0), -1);
        due("n 9", x.type(0, 9), -1);
        due("n least", x.type(0, Integer.MIN_VALUE), -1);
        due("n most", x.type(0, Integer.MAX_VALUE), -1);
        due("nothing typed", x.count(6), 0);
        for (int n = 1; n <= 8; n++) due("n " + n, x.type(-1L, n), n * (n + 1) / 2);
        x.clear();
        for (int i = 1; i <= 37; i++) due("eight", x.type(0, 8), 8L * i);
        due("five are too many", x.type(0, 5), -3);
        due("none of them came", x.count(6), 296);
        due("BAD before FULL", x.type(0, 9), -1);
        due("the last four", x.type(0, 4), 300);
        due("one more", x.type(0, 1), -3);
        due("full", x.count(6), 300);
        due("clear", x.clear(), 300);
        // the highest of the lowest n bytes comes first, what is above them is not typed
        due("bytes", x.type(0x7A7A_6F75_7420_413BL, 6), 6);
        due("out A;", x.program(), -14);
        x.clear();
        x.type(0x7A636F6E2041L, 5);
        x.type(0x2031353B6FL, 5);
        x.type(0x757420413BL, 5);
        due("con A 15;out A;", x.program(), 2);
        due("its number", x.item(0, 4), 15);
    }

    private static void clearing() {
        DustSums x = new DustSums();
        due("empty", x.clear(), 0);
        x.type(0, 3);
        due("three", x.clear(), 3);
        due("empty again", x.clear(), 0);
        due("count", x.count(6), 0);
    }

    private static void programTaken() {
        DustSums x = Checks.with("in A 0;mul B A A;out B;");
        x.input(0, 0, 3);
        x.input(0, 1, 4);
        x.lot(39, 9);
        x.lie(1, 0, 1);
        x.lie(2, 1, 1);
        x.modulus(11);
        Checks.typeText(x, "in C 1;in D 2;mul B C D;out B;");
        due("four items", x.program(), 4);
        due("the text is empty", x.count(6), 0);
        due("items", x.count(0), 4);
        due("inputs", x.count(1), 2);
        due("muls", x.count(2), 1);
        due("lots", x.count(3), 12);
        due("no lies", x.count(4), 0);
        due("end", x.end(), 0);
        for (int i = 0; i < 2; i++) {
            for (int row = 0; row < 2; row++) due("input 0", x.input(i, row, 1), 0);
        }
        due("lots stay", x.lot(39, 0), 9);
        due("M stays", x.modulus(5), 11);
        due("empty text", x.program(), -10);
        due("and no change", x.count(0), 4);
    }

    private static void programAtFault() {
        DustSums x = Checks.with("in A 0;mul B A A;out B;");
        x.input(0, 0, 3);
        x.lie(2, 0, 2);
        Checks.typeText(x, "in A 1;con B 16;out A;");
        due("fault", x.program(), -10 - 13);
        due("the text stays", x.count(6), 22);
        due("fault again", x.program(), -10 - 13);
        due("items", x.count(0), 3);
        due("H", x.item(0, 4), 0);
        due("lies", x.count(4), 1);
        due("end", x.end(), 1);
        due("input", x.input(0, 0, 0), 3);
        due("more text", x.type(' ', 1), 23);
    }

    private static void fault(String text, int place) {
        DustSums x = new DustSums();
        Checks.typeText(x, text);
        due("\"" + text + "\"", x.program(), -10 - place);
        due("\"" + text + "\" stays", x.count(6), text.length());
        due("\"" + text + "\" changes nothing", x.count(0), 2);
    }

    private static void faults() {
        // it ends too early
        for (String text : new String[] {"", "   ", "in", "in ", "in A", "in A 0", "in A 0;", "in A 0;  ", "con",
                "con A", "con A 1", "con A 15;out", "con A 15;out A", "con A 15;out A  "}) fault(text, text.length());
        // bytes that begin no token
        for (char c : new char[] {0, 9, 10, 31, 33, '-', '+', ',', ':', '<', '@', 'Q', 'Z', '[', '`', '{', 127, 128, 200, 255}) {
            fault("" + c, 0);
            fault(" in A" + c, 5);
            fault("con A 0;out A;" + c, 14);
        }
        for (char c : new char[] {'@', 'Q', 'Z', 'a', '0'}) {
            fault("in " + c + " 0;", 3);
            fault("con A 0;add B " + c + " A;", 14);
            fault("con A 0;out " + c + ";", 12);
        }
        // words
        for (String word : new String[] {"i", "inn", "ins", "co", "cons", "conn", "ad", "adds", "su", "subs", "mu", "mulm",
                "ou", "outt", "o", "nim", "zin", "coninin", "aaaaaaaaain", "abcdeout", "con\u0061"}) {
            fault(word + " A 0;", 0);
            fault("con A 0;  " + word + " A;", 10);
        }
        fault("in in A 0;", 3);
        fault("A", 0);
        fault(";", 0);
        fault("0", 0);
        fault("con A 0;;", 8);
        fault("con 0 A;", 4);
        fault("con ;", 4);
        fault("con A ;", 6);
        fault("con A B;", 6);
        fault("con A in;", 6);
        fault("con A 1 2;", 8);
        fault("con A 1 out A;", 8);
        fault("con AB 1;", 5);
        // numbers
        fault("in A 3;", 5);
        fault("in A 10;", 5);
        fault("in A 99;", 5);
        fault("in A 00;", 5);
        fault("in A 01;", 5);
        fault("con A 16;", 6);
        fault("con A 99;", 6);
        fault("con A 100;", 6);
        fault("con A 1000000000000000;", 6);
        fault("con A 4294967297;", 6);
        fault("con A 00;", 6);
        fault("con A 07;", 6);
        fault("con A 015;", 6);
        // letters
        fault("con A 0;con A 0;", 12);
        fault("con A 0;in A 0;", 11);
        for (String word : new String[] {"add", "sub", "mul"}) {
            fault("con A 0;" + word + " A A A;", 12);
            fault("con A 0;" + word + " B B A;", 14);
            fault("con A 0;" + word + " B A B;", 16);
            fault("con A 0;" + word + " B P A;", 14);
            fault("con A 0;" + word + " B A C;", 16);
            fault("con A 0;" + word + " B A;", 15);
            fault("con A 0;" + word + " B A A A;", 18);
            fault("con A 0;" + word + " B A 0;", 16);
            fault(word + " A B C;", 6);
        }
        fault("out A;", 4);
        fault("con A 0;out B;", 12);
        fault("con A 0;out A A;", 14);
        fault("con A 0;out A 0;", 14);
        // behind out
        fault("con A 0;out A;;", 14);
        fault("con A 0;out A; out A;", 15);
        fault("con A 0;out A;con B 0;", 14);
        fault("con A 0;out A; 07", 15);
        // too many
        fault("in A 0;in B 0;in C 0;in D 0;con E 0;in F 0;", 36);
        fault("con A 0;mul B A A;mul C A A;mul D A A;mul E A A;sub F A A;  mul G A A;", 60);
        StringBuilder fifteen = new StringBuilder();
        for (int i = 0; i < 15; i++) fifteen.append("con ").append((char) ('A' + i)).append(" 1;");
        fault(fifteen + "con P 1;out P;", 120);
        fault(fifteen + "in P 0;out P;", 120);
        fault(fifteen + "add P A A;", 120);
        fault(fifteen + "sub P A A;", 120);
        fault(fifteen + "mul P A A;", 120);
        fault(fifteen + "out P;", 124);
        fault(fifteen.toString(), 120);
        StringBuilder full = new StringBuilder("con A 0;out A");
        while (full.length() < 300) full.append(' ');
        fault(full.toString(), 300);
        full.setCharAt(299, 'A');
        fault(full.toString(), 299);
    }

    private static void good(String text, int items) {
        DustSums x = new DustSums();
        Checks.typeText(x, text);
        due("\"" + text + "\"", x.program(), items);
        due("\"" + text + "\" count", x.count(0), items);
        due("\"" + text + "\" taken", x.count(6), 0);
    }

    private static void goodTexts() {
        good("con A 0;out A;", 2);
        good("conA0;outA;", 2);
        good("  con  A  15  ;  out  A  ;  ", 2);
        good("in P 2;add A P P;sub B A P;mul C B B;out P;", 5);
        good("con A 10;out A;", 2);
        good("in A 0;in B 1;in C 2;in D 0;out D;", 5);
        good("con A 1;mul B A A;mul C B B;mul D C C;mul E D D;out E;", 6);
        StringBuilder sixteen = new StringBuilder();
        for (int i = 0; i < 15; i++) sixteen.append("con ").append((char) ('B' + i)).append(" 9;");
        good(sixteen + "out P;", 16);
        StringBuilder full = new StringBuilder("con A 0;out A");
        while (full.length() < 299) full.append(' ');
        good(full + ";", 2);
    }

    private static void items() {
        DustSums x = Checks.with("in A 2;con P 15;add B A P;sub C B A;mul D C B;mul E D A;sub F E D;add G C D;out F;");
        int[][] due = {
            {0, 0, -9, -9, 2, 0}, {1, 15, -9, -9, 15, 0}, {2, 1, 0, 15, -9, 0}, {3, 2, 1, 0, -9, 0}, {4, 3, 2, 1, -9, 1},
            {4, 4, 3, 0, -9, 2}, {3, 5, 4, 3, -9, 2}, {2, 6, 2, 3, -9, 1}, {5, 5, -9, -9, -9, 3}};
        for (int i = 0; i < due.length; i++) {
            for (int what = 0; what < 6; what++) due("item(" + i + ", " + what + ")", x.item(i, what), due[i][what]);
        }
        for (int bad : new int[] {-1, 9, 15, 16, Integer.MIN_VALUE, Integer.MAX_VALUE}) due("item " + bad, x.item(bad, 0), -1);
        for (int bad : new int[] {-1, 6, Integer.MIN_VALUE, Integer.MAX_VALUE}) due("item what " + bad, x.item(0, bad), -1);
        // rows of a longer program must not be found in a shorter one
        Checks.load(x, "con A 0;out A;");
        due("gone item", x.item(2, 0), -1);
    }

    private static void modulus() {
        DustSums x = Checks.with("con A 15;out A;");
        due("first", x.modulus(16), 5);
        due("15 modulo 16", x.end(), 15);
        for (int bad : new int[] {-1, 0, 1, 17, Integer.MIN_VALUE, Integer.MAX_VALUE}) due("modulus " + bad, x.modulus(bad), -1);
        for (int m = 2; m <= 16; m++) {
            due("modulus " + m, x.modulus(m), m == 2 ? 16 : m - 1);
            due("15 modulo " + m, x.end(), 15 % m);
        }
    }

    private static void inputs() {
        DustSums x = new DustSums();
        due("no input", x.input(0, 0, 0), -1);
        Checks.load(x, "in A 0;in B 1;in C 2;in D 0;sub E A B;out E;");
        for (int i = 0; i < 4; i++) {
            for (int row = 0; row < 2; row++) due("first", x.input(i, row, 15 - 2 * i - row), 0);
        }
        for (int i = 0; i < 4; i++) {
            for (int row = 0; row < 2; row++) due("kept", x.input(i, row, 15 - 2 * i - row), 15 - 2 * i - row);
        }
        due("15 - 13", x.end(), 2);
        x.modulus(16);
        due("a number is taken modulo M when it is used", x.share(0, 2), 15);
        int[] bad = {Integer.MIN_VALUE, -1, 4, Integer.MAX_VALUE};
        for (int i : bad) due("input i " + i, x.input(i, 0, 1), -1);
        for (int row : new int[] {Integer.MIN_VALUE, -1, 2, Integer.MAX_VALUE}) due("row " + row, x.input(0, row, 1), -1);
        for (int v : new int[] {Integer.MIN_VALUE, -1, 16, Integer.MAX_VALUE}) due("v " + v, x.input(0, 0, v), -1);
        due("unchanged", x.input(0, 0, 0), 15);
    }

    private static void lots() {
        DustSums x = Checks.with("in A 1;out A;");
        for (int i = 0; i < 40; i++) due("first", x.lot(i, i % 16), 0);
        for (int i = 0; i < 40; i++) due("kept", x.lot(i, 15 - i % 16), i % 16);
        due("taken modulo M", x.share(0, 0), 0);
        x.modulus(16);
        due("taken modulo the new M", x.share(0, 0), 15);
        for (int i : new int[] {Integer.MIN_VALUE, -1, 40, Integer.MAX_VALUE}) due("lot i " + i, x.lot(i, 1), -1);
        for (int v : new int[] {Integer.MIN_VALUE, -1, 16, Integer.MAX_VALUE}) due("lot v " + v, x.lot(0, v), -1);
        due("unchanged", x.lot(0, 0), 15);
    }

    private static void lies() {
        DustSums x = Checks.with("in A 0;con B 3;add C A B;sub D C A;mul E C D;out E;");
        for (int item = 0; item < 4; item++) due("lie in " + item, x.lie(item, 0, 1), -1);
        for (int item : new int[] {-1, 6, 16, Integer.MIN_VALUE, Integer.MAX_VALUE}) due("lie in " + item, x.lie(item, 0, 1), -1);
        for (int hand : new int[] {-1, 3, Integer.MIN_VALUE, Integer.MAX_VALUE}) due("lie of " + hand, x.lie(4, hand, 1), -1);
        for (int v : new int[] {-1, 0, 16, Integer.MIN_VALUE, Integer.MAX_VALUE}) due("lie by " + v, x.lie(4, 0, v), -1);
        due("no lies yet", x.count(4), 0);
        due("first", x.lie(5, 0, 1), 1);
        due("another", x.lie(5, 1, 15), 2);
        due("the same again", x.lie(5, 0, 1), 3);
        due("end 9 and 17", x.end(), (9 + 17) % 5);
        x.modulus(16);
        due("end 9 and 17, modulo 16", x.end(), (9 + 17) % 16);
        due("of mul", x.lie(4, 2, 1), 4);
        due("fifth", x.lie(4, 1, 2), 5);
        due("sixth", x.lie(4, 0, 3), 6);
        due("a mul's lie of 6 is 6 times y", x.end(), (9 + 17 + 6 * 3) % 16);
        due("seventh", x.lie(4, 0, 3), -3);
        due("BAD before FULL", x.lie(3, 0, 3), -1);
        due("six", x.count(4), 6);
        due("honest", x.honest(), 6);
        due("none", x.honest(), 0);
        due("count", x.count(4), 0);
        due("end", x.end(), 9);
    }
}
