/** Boundary cases of promise 4: which texts become the program, and the places of their faults. */
final class ProgramEdges extends Edges {
    /** A text at fault: "-10 less FAULT: nothing changes". */
    private static void fault(String text, int place) {
        refused("\"" + text + "\"", x -> Checks.typeText(x, text), x -> x.program(), -10 - place);
    }

    private static void good(String text, int items) {
        DustSums x = new DustSums();
        Checks.typeText(x, text);
        due("\"" + text + "\"", x.program(), items);
        due("items of \"" + text + "\"", x.count(0), items);
        due("bytes left of \"" + text + "\"", x.count(6), 0);
    }

    /** So many ITEMS con, with the V's A and those behind it. */
    private static String cons(int items) {
        StringBuilder text = new StringBuilder();
        for (int i = 0; i < items; i++) text.append("con ").append((char) ('A' + i)).append(" 1;");
        return text.toString();
    }

    // ---- "the text's length, if it ends too early"

    static void promise04_emptyTextEndsAt0() {
        fault("", 0);
    }

    static void promise04_blankTextEndsAtItsLength() {
        fault(" ", 1);
        fault(" ".repeat(9), 9);
        fault(" ".repeat(300), 300);
    }

    static void promise04_textEndsBehindEachToken() {
        String[] tokens = {"in", " A", " 0", ";", "con", " B", " 15", ";", "add", " C", " A", " B", ";", "sub", " D", " C",
            " A", ";", "mul", " E", " D", " D", ";", "out", " E", ";"};
        StringBuilder text = new StringBuilder();
        for (String token : tokens) {
            fault(text.toString(), text.length());
            fault(text + "  ", text.length() + 2);
            text.append(token);
        }
        good(text.toString(), 6);
    }

    static void promise04_fullTextEndsAt300() {
        fault("con A 0;out A" + " ".repeat(287), 300);
        good("con A 0;out A" + " ".repeat(286) + ";", 2);
    }

    static void promise04_faultInTheLastOf300Bytes() {
        fault("con A 0;out A" + " ".repeat(286) + ":", 299);
        fault("con A 0;out A;" + " ".repeat(285) + ";", 299);
        good("con A 0;out A;" + " ".repeat(286), 2);
    }

    // ---- bytes and tokens

    /** "blanks (32) between TOKENS": none of the other bytes that look like one. */
    static void promise04_onlyByte32IsABlank() {
        good("con A 0; out A;", 2);
        for (char other : new char[] {0, 9, 10, 12, 13, 31, 33, 127, 160}) {
            fault(other + "con A 0;out A;", 0);
            fault("con A 0;" + other + "out A;", 8);
            fault("con A 0;out A;" + other, 14);
        }
    }

    static void promise04_blanksAnywhereBetweenAndAsManyAsFit() {
        good("   con   A   15   ;   out   A   ;   ", 2);
        good("conA0;outA;", 2);
    }

    static void promise04_blanksPartTokens() {
        fault("co n A 0;", 0);
        fault("con A 1 5;", 8);
        fault("i n A 0;", 0);
    }

    /** "a byte that begins none": those beside each kind of token. */
    static void promise04_bytesBesideThoseThatBeginTokens() {
        for (char other : new char[] {'/', ':', '<', '@', 'Q', 'Z', '[', '`', '{', 128, 255}) {
            fault("" + other, 0);
            fault("con" + other + " A 0;", 3);
            fault("con A 1" + other + ";", 7);
            fault("con A 0;out A" + other, 13);
        }
    }

    /** "words of letters a .. z": the first and the last of them belong to the word, those beside do not. */
    static void promise04_wordsGoFromAToZ() {
        fault("ina A 0;", 0);
        fault("inz A 0;", 0);
        fault("in` A 0;", 2);
        fault("in{ A 0;", 2);
    }

    /** NUMBERS are of 0 .. 9, and no byte beside these. */
    static void promise04_numbersGoFrom0To9() {
        for (int n = 0; n <= 9; n++) good("con A " + n + ";out A;", 2);
        fault("con A /;", 6);
        fault("con A :;", 6);
        fault("con A 1/;", 7);
        fault("con A 1:;", 7);
        fault("con A 1;out A;9", 14);
    }

    /** "a word that is none of in, con, add, sub, mul, out": a letter less, a letter more, another one. */
    static void promise04_wordsOneLetterAside() {
        for (String word : new String[] {"in", "con", "add", "sub", "mul", "out"}) {
            fault(word.substring(1) + " A 0;", 0);
            fault(word.substring(0, word.length() - 1) + " A 0;", 0);
            fault(word + word.charAt(0) + " A 0;", 0);
            fault("a" + word + " A 0;", 0);
            fault(word + word + " A 0;", 0);
            fault("con A 0;  " + word + "x B A A;", 10);
        }
    }

    /** However long a word is, its last letters are not taken for it. */
    static void promise04_longWords() {
        fault("a".repeat(298) + "in", 0);
        fault("aaaain A 0;", 0);
        fault("aaaaacon A 0;", 0);
        fault("aaaaaaaaacon A 0;", 0);
    }

    /** "V are letters A .. P", wherever a V stands. */
    static void promise04_lettersGoFromAToP() {
        for (char v = 'A'; v <= 'P'; v++) good("in " + v + " 0;out " + v + ";", 2);
        good("con P 0;con A 1;add B A P;sub C P A;out P;", 5);
        for (char other : new char[] {'@', 'Q', 'a', '0', ';'}) {
            fault("in " + other + " 0;", 3);
            fault("con " + other + " 0;", 4);
            fault("con A 0;mul " + other + " A A;", 12);
            fault("con A 0;mul B " + other + " A;", 14);
            fault("con A 0;mul B A " + other + ";", 16);
            fault("con A 0;out " + other + ";", 12);
        }
    }

    /** "just one" letter is a V. */
    static void promise04_twoLettersAreTwoTokens() {
        fault("con AB 0;", 5);
        fault("con A 0;out AA;", 13);
        good("con A 0;add BAA;out B;", 3);
    }

    // ---- numbers

    /** "in V H (an input of a HAND 0 .. 2". */
    static void promise04_handsAre0To2() {
        for (int hand = 0; hand <= 2; hand++) good("in A " + hand + ";out A;", 2);
        for (String hand : new String[] {"3", "9", "10", "15", "99", "100", "-1"}) fault("in A " + hand + ";out A;", 5);
    }

    /** "con V N (N 0 .. 15)". */
    static void promise04_constantsAre0To15() {
        for (int n = 0; n <= 15; n++) good("con A " + n + ";out A;", 2);
        for (String n : new String[] {"16", "20", "99", "-1"}) fault("con A " + n + ";out A;", 6);
    }

    /** "a NUMBER above 99", however long, even one that would be small in 8, 16, 32 or 64 bits. */
    static void promise04_numbersAbove99() {
        for (String n : new String[] {"100", "101", "115", "256", "999", "65536", "4294967296", "4294967297",
                "18446744073709551616", "1".repeat(290)}) {
            fault("con A " + n + ";", 6);
            fault("in A " + n + ";", 5);
        }
    }

    /** "NUMBERS (no 0 ahead of others)". */
    static void promise04_noZeroAhead() {
        good("con A 0;out A;", 2);
        good("con A 10;out A;", 2);
        for (String n : new String[] {"00", "01", "07", "09", "015", "000", "0000000001"}) {
            fault("con A " + n + ";out A;", 6);
            fault("in A " + n + ";out A;", 5);
        }
    }

    // ---- how many

    /** "in .. 4 at most": "a 5th in". */
    static void promise04_fourInsAreTakenAndAFifthIsNot() {
        good("in A 0;in B 1;in C 2;in D 0;out A;", 5);
        fault("in A 0;in B 1;in C 2;in D 0;in E 0;out A;", 28);
        fault("in A 0;in B 1;in C 2;in D 0;con E 1;  in F 0;out A;", 38);
    }

    /** "4 mul at most": "a 5th .. mul". */
    static void promise04_fourMulsAreTakenAndAFifthIsNot() {
        good("con A 1;mul B A A;mul C A A;mul D A A;mul E A A;out A;", 6);
        fault("con A 1;mul B A A;mul C A A;mul D A A;mul E A A;mul F A A;out A;", 48);
        fault("con A 1;mul B A A;mul C A A;mul D A A;mul E A A;add F A A;  mul G A A;out A;", 60);
    }

    /** Of con, add and sub there may be more than four, with four in's and four mul's beside them. */
    static void promise04_moreThanFourOfTheOthers() {
        good("con A 1;con B 1;con C 1;con D 1;con E 1;add F A A;add G A A;add H A A;add I A A;add J A A;sub K A A;sub L A A;"
            + "sub M A A;sub N A A;sub O A A;out O;", 16);
        good("in A 0;in B 0;in C 0;in D 0;mul E A A;mul F A A;mul G A A;mul H A A;con I 0;out H;", 10);
    }

    /** "ITEMS, 16 at most": "a 16th ITEM that is no out". */
    static void promise04_sixteenItemsAreTaken() {
        good(cons(14) + "out N;", 15);
        good(cons(15) + "out O;", 16);
    }

    static void promise04_aSixteenthItemThatIsNoOut() {
        for (String item : new String[] {"con P 1;", "in P 0;", "add P A A;", "sub P A A;", "mul P A A;"}) {
            fault(cons(15) + item, 120);
            fault(cons(15) + item + "out P;", 120);
            good(cons(14) + item + "out P;", 16);
        }
        fault(cons(15) + "  con P 1;", 122);
        fault(cons(15), 120);
    }

    /** The least program makes one V and shows it. */
    static void promise04_twoItemsAreTheLeast() {
        good("in A 0;out A;", 2);
        fault("out A;", 4);
        fault("out P;", 4);
    }

    // ---- out

    /** "out V (the last ITEM, just one)": "anything behind out's ;". */
    static void promise04_nothingButBlanksBehindOut() {
        good("con A 0;out A;   ", 2);
        for (String more : new String[] {";", "out A;", "con B 0;", "A", "0", "07", "100", "x", "?"}) {
            fault("con A 0;out A;" + more, 14);
            fault("con A 0;out A;  " + more, 16);
        }
    }

    static void promise04_programWithoutOutEndsTooEarly() {
        fault("con A 0;", 8);
        fault("con A 0;con B 0;", 16);
    }

    // ---- "each becomes something once, ahead of where it is used"

    /** "a V that became something". */
    static void promise04_aVBecomesSomethingJustOnce() {
        for (String item : new String[] {"in A 0;", "con A 0;", "add A B B;", "sub A B B;", "mul A B B;"}) {
            int place = item.indexOf('A');
            fault("con A 0;con B 0;" + item + "out A;", 16 + place);
            good("con B 0;" + item + "out A;", 3);
        }
    }

    /** "one that did not yet". */
    static void promise04_aVIsUsedOnlyBehindWhereItBecame() {
        for (String word : new String[] {"add", "sub", "mul"}) {
            fault("con A 0;" + word + " B C A;con C 0;out B;", 14);
            fault("con A 0;" + word + " B A C;con C 0;out B;", 16);
            fault("con A 0;" + word + " B P P;", 14);
            good("con A 0;con C 0;" + word + " B C A;out B;", 4);
        }
        fault("con A 0;out B;", 12);
    }

    /** Inside its own ITEM a V did not become something yet. */
    static void promise04_aVIsNotUsedInItsOwnItem() {
        for (String word : new String[] {"add", "sub", "mul"}) {
            fault("con A 0;" + word + " B B A;", 14);
            fault("con A 0;" + word + " B A B;", 16);
            fault(word + " A A A;", 6);
        }
    }

    static void promise04_theSameVMayBeUsedTwiceAndAgain() {
        good("con A 0;add B A A;sub C A A;mul D A A;out A;", 5);
    }

    /** V's of a text at fault, or of the program before, did not become anything for the next text. */
    static void promise04_eachTextBeginsWithoutVs() {
        DustSums x = with("con A 0;con B 1;out B;");
        Checks.typeText(x, "con C 0;con D 0;add E C Q;");
        due("fault", x.program(), -34);
        x.clear();
        Checks.typeText(x, "out A;");
        due("A of the program", x.program(), -14);
        x.clear();
        Checks.typeText(x, "con C 0;out D;");
        due("D of the text at fault", x.program(), -22);
        x.clear();
        Checks.typeText(x, "con B 2;out B;");
        due("B once more", x.program(), 2);
    }

    /** In's, mul's and ITEMS are counted from the text's own beginning. */
    static void promise04_eachTextBeginsItsCounts() {
        String most = "in A 0;in B 0;in C 0;in D 0;mul E A A;mul F A A;mul G A A;mul H A A;con I 0;con J 0;con K 0;con L 0;con M 0;"
            + "con N 0;con O 0;out O;";
        DustSums x = new DustSums();
        for (int time = 0; time < 2; time++) {
            Checks.typeText(x, most);
            due("all that there may be", x.program(), 16);
            Checks.typeText(x, most + ";");
            due("and a fault", x.program(), -10 - most.length());
            x.clear();
        }
    }

    // ---- tokens in the wrong order

    static void promise04_aTokenOfAnotherKind() {
        for (String first : new String[] {"A", ";", "0"}) fault(first + " con A 0;", 0);
        fault("con con A 0;", 4);
        fault("con 0 A;", 4);
        fault("con A A;", 6);
        fault("con A con;", 6);
        fault("con A ;", 6);
        fault("con A 0 out A;", 8);
        fault("con A 0 A;", 8);
        fault("con A 0 0;", 8);
        fault("con A 0;;out A;", 8);
        fault("con A 0;add B A;", 15);
        fault("con A 0;add B A A A;", 18);
        fault("con A 0;add B A 0;", 16);
        fault("con A 0;out A A;", 14);
        fault("con A 0;out A 0;", 14);
        fault("con A 0;out;", 11);
    }

    /** "the first TOKEN that can't stand there", whatever comes behind it. */
    static void promise04_theFirstOfSeveralFaults() {
        fault("con A 16;con A 0;?", 6);
        fault("con A 0;con A 99;?", 12);
        fault("con A 0;conn ?", 8);
        fault("? con A 16;", 0);
        fault("con A 0;add A B C;", 12);
        fault("con A 0;add B C D;", 14);
    }

    // ---- what becomes of the rest

    /** "THE TEXT becomes THE PROGRAM, and is empty then .. (INPUTS are 0, there are no LIES)". */
    static void promise04_inputsAre0AndLiesAreGone() {
        DustSums x = with("in A 0;in B 1;in C 2;in D 0;out A;");
        for (int i = 0; i < 8; i++) x.input(i / 2, i % 2, 15);
        for (int i = 0; i < 6; i++) x.lie(4, i % 3, 2);
        Checks.typeText(x, "in A 0;in B 1;in C 2;in D 0;out A;");
        due("the same once more", x.program(), 5);
        due("lies", x.count(4), 0);
        due("end", x.end(), 0);
        for (int i = 0; i < 8; i++) due("input", x.input(i / 2, i % 2, 1), 0);
        for (int i = 1; i <= 6; i++) due("six lies again", x.lie(4, 0, 1), i);
    }

    /** An INPUT that only the longer program has is 0 again when a longer one comes back. */
    static void promise04_inputsOfALongerProgramAreGone() {
        DustSums x = with(textOf(4, 0));
        x.input(3, 0, 9);
        load(x, textOf(1, 0));
        due("no fourth", x.input(3, 0, 1), -1);
        load(x, textOf(4, 0));
        due("the fourth", x.input(3, 0, 1), 0);
    }

    static void promise04_allElseStays() {
        DustSums x = new DustSums();
        busy(x);
        Checks.typeText(x, "5;out D;");
        due("program", x.program(), 2);
        due("N", x.item(0, 4), 15);
        due("lot", x.lot(39, 0), (39 * 5 + 3) % 16);
        due("M", x.modulus(5), 2);
        due("N, of trades", x.trade(0, 0), 7);
        due("month", x.count(5), 2);
        due("taken", x.count(7), 2);
        due("bend", x.bend(4, 0), 3);
        due("trace", x.trace(), 100001);
        due("Q", x.field(0, 7), 11);
    }

    static void promise04_faultChangesNothingOfABusyObject() {
        refused("con D 1", Edges::busy, x -> x.program(), -17);
        refused("con D 1?", x -> {
            busy(x);
            x.type('?', 1);
        }, x -> x.program(), -17);
        refused("con D 1;out D;;", x -> {
            busy(x);
            Checks.typeText(x, ";out D;;");
        }, x -> x.program(), -24);
    }
}
