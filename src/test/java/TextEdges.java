/** Boundary cases of promises 1 to 3: a new object, type and clear. */
final class TextEdges extends Edges {
    private static final int MOST = 300;

    // ---- 1: what stands at first

    /** "M (2 .. 16; 5 at first)". */
    static void promise01_modulusIs5AtFirst() {
        due("modulus", new DustSums().modulus(2), 5);
    }

    /** "(At first: "con A 0;out A;".)" */
    static void promise01_programAtFirstIsConA0OutA() {
        DustSums x = new DustSums();
        int[][] items = {{1, 0, -9, -9, 0, 0}, {5, 0, -9, -9, -9, 1}};
        for (int i = 0; i < 2; i++) {
            for (int what = 0; what < 6; what++) due("item(" + i + ", " + what + ")", x.item(i, what), items[i][what]);
        }
        due("items", x.count(0), 2);
        due("no third item", x.item(2, 0), -1);
        due("end", x.end(), 0);
    }

    static void promise01_textIsEmptyAtFirst() {
        DustSums x = new DustSums();
        due("bytes", x.count(6), 0);
        due("clear", x.clear(), 0);
        due("an empty text ends at 0", x.program(), -10);
    }

    /** "LOTS 0 .. 39: .. (0 at first)". */
    static void promise01_allLotsAre0AtFirst() {
        DustSums x = new DustSums();
        for (int i = 0; i < 40; i++) due("lot " + i, x.lot(i, 15), 0);
    }

    static void promise01_noInputsAndNoLiesAtFirst() {
        DustSums x = new DustSums();
        due("inputs", x.count(1), 0);
        due("no first input", x.input(0, 0, 0), -1);
        due("lies", x.count(4), 0);
        due("honest", x.honest(), 0);
    }

    /** "N, W, T 0 .. 999; 10, 4, 20 at first". */
    static void promise01_pricesAre10And4And20AtFirst() {
        DustSums x = new DustSums();
        int[] first = {10, 4, 20};
        for (int what = 0; what < 3; what++) due("trade " + what, x.trade(what, 0), first[what]);
    }

    /** "7 at first", "1 at first", "5 at first". */
    static void promise01_fieldIs7And1And5AtFirst() {
        due("Q", new DustSums().field(0, 13), 7);
        due("g", new DustSums().field(1, 2), 1);
        due("n", new DustSums().field(2, 3), 5);
    }

    static void promise01_curveIs0AndUnbentAtFirst() {
        DustSums x = new DustSums();
        for (int hand = 0; hand < 5; hand++) {
            due("point", x.point(hand), 0);
            due("bend", x.bend(hand, 1), 0);
        }
        due("no sixth point", x.point(5), -1);
    }

    /** "MONTHS 0 .. 29: 0 at first". */
    static void promise01_monthIs0AndNothingTakenAtFirst() {
        DustSums x = new DustSums();
        due("month", x.count(5), 0);
        due("taken", x.count(7), 0);
        due("known", x.known(0), 0);
        due("safe", x.known(1), 1);
    }

    static void promise01_traceIs0AtFirst() {
        due("trace", new DustSums().trace(), 0);
    }

    static void promise01_objectsShareNothing() {
        refused("another object's calls", Edges::fresh, x -> {
            busy(new DustSums());
            return -1;
        }, -1);
    }

    /** "An object is used for at most 512 calls": the last of them is answered, too. */
    static void promise01_the512thCallAnswers() {
        DustSums x = new DustSums();
        for (int call = 1; call < 512; call++) x.weight(5, 1);
        due("the 512th call", x.trace(), 511L * 100001);
    }

    // ---- 2: type

    /** "n (1 .. 8)". */
    static void promise02_bytesACallAre1To8() {
        range("type", Edges::fresh, (x, n) -> x.type(0x4142434445464748L, n), 1, 8);
        range("type of a busy object", Edges::busy, (x, n) -> x.type(0x4142434445464748L, n), 1, 8);
    }

    /** "The lowest n bytes of v": what is above them does not come. */
    static void promise02_oneByteIsTheLowest() {
        DustSums x = new DustSums();
        Checks.typeText(x, "con A 0;out ");
        due("one byte", x.type(0x5151515151515141L, 1), 13);
        due("the last", x.type(0x513BL, 1), 14);
        due("con A 0;out A;", x.program(), 2);
    }

    /** "the highest of them first". */
    static void promise02_eightBytesAreAllFromTheHighest() {
        DustSums x = new DustSums();
        due("con A 1;", x.type(0x636F6E204120313BL, 8), 8);
        due("out A;, below two that are not asked for", x.type(0x51516F757420413BL, 6), 14);
        due("program", x.program(), 2);
        due("N", x.item(0, 4), 1);
    }

    /** A byte is 0 .. 255: one above 127 is not the one 128 below it, whatever stands above it in v. */
    static void promise02_bytesAbove127AreThemselves() {
        for (int low : new int[] {' ', ';', 'A', '0', 'c'}) {
            DustSums x = new DustSums();
            due("one byte", x.type(low + 128, 1), 1);
            due("begins no token", x.program(), -10);
        }
        DustSums x = new DustSums();
        Checks.typeText(x, "con A 0;out A;");
        due("a blank and 128", x.type(160, 1), 15);
        due("is no blank", x.program(), -24);
        DustSums all = new DustSums();
        due("eight times 255", all.type(-1L, 8), 8);
        due("begin no token", all.program(), -10);
    }

    /** "a text (300 bytes at most)": for each n the last that goes in, and the first that does not. */
    static void promise02_300BytesAreTakenAnd301AreFull() {
        for (int n = 1; n <= 8; n++) {
            int bytes = n;
            DustSums x = new DustSums();
            typeBlanks(x, MOST - n);
            due("up to 300 by " + n, x.type(0, n), MOST);
            due("bytes", x.count(6), MOST);
            refused("up to 301 by " + n, y -> typeBlanks(y, MOST + 1 - bytes), y -> y.type(0, bytes), -3);
        }
    }

    static void promise02_fullTextTakesNoByte() {
        for (int n = 1; n <= 8; n++) {
            int bytes = n;
            refused(n + " to 300", y -> typeBlanks(y, MOST), y -> y.type(0, bytes), -3);
        }
    }

    /** "Refused, and nothing changes": not even the bytes that there was room for. */
    static void promise02_noByteOfARefusedCallComes() {
        DustSums x = new DustSums();
        Checks.typeText(x, "con A 0;out");
        typeBlanks(x, 285);
        due("five to 296", x.type(0x5151515151L, 5), -3);
        due("bytes", x.count(6), 296);
        due("four", x.type(0x2041203BL, 4), MOST);
        due("con A 0;out .. A ;", x.program(), 2);
    }

    /** "the first of these: BAD .., FULL". */
    static void promise02_badComesBeforeFull() {
        for (int n : new int[] {0, 9, -1, Integer.MIN_VALUE, Integer.MAX_VALUE}) {
            refused(n + " to 300", y -> typeBlanks(y, MOST), y -> y.type(0, n), -1);
            refused(n + " to 299", y -> typeBlanks(y, MOST - 1), y -> y.type(0, n), -1);
        }
    }

    static void promise02_textThatBecameTheProgramLeavesAllRoom() {
        DustSums x = new DustSums();
        Checks.typeText(x, "con A 0;out A;");
        typeBlanks(x, 286);
        due("full", x.type(0, 1), -3);
        due("program", x.program(), 2);
        due("the first byte again", x.type(0, 1), 1);
        typeBlanks(x, 298);
        due("the last byte again", x.type(0, 1), MOST);
        due("full again", x.type(0, 1), -3);
    }

    // ---- 3: clear

    static void promise03_emptyTextHad0() {
        DustSums x = new DustSums();
        due("never typed", x.clear(), 0);
        x.type(0, 1);
        due("one byte", x.clear(), 1);
        due("cleared already", x.clear(), 0);
    }

    static void promise03_fullTextHad300AndHasAllRoomThen() {
        DustSums x = new DustSums();
        typeBlanks(x, MOST);
        due("clear", x.clear(), MOST);
        due("bytes", x.count(6), 0);
        typeBlanks(x, 292);
        due("300 again", x.type(0, 8), MOST);
        due("full again", x.type(0, 1), -3);
    }

    /** "THE TEXT is empty": nothing of it is left for the next. */
    static void promise03_placesBeginAt0Again() {
        DustSums x = new DustSums();
        Checks.typeText(x, "con A 0;out A;");
        x.clear();
        due("nothing is left", x.program(), -10);
        Checks.typeText(x, "con B 16;");
        due("place 6", x.program(), -16);
        x.clear();
        Checks.typeText(x, "con C 0;");
        due("it ends at 8, though more was typed once", x.program(), -18);
    }

    static void promise03_allButTheTextStays() {
        DustSums x = new DustSums();
        busy(x);
        due("clear", x.clear(), 7);
        due("items", x.count(0), 4);
        due("lies", x.count(4), 2);
        due("input", x.input(0, 0, 0), 15);
        due("lot", x.lot(0, 0), 3);
        due("month", x.count(5), 2);
        due("taken", x.count(7), 2);
        due("trace", x.trace(), 100001);
    }
}
