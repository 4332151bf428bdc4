import java.util.Arrays;

/** Programs on numbers that nobody has, run by three hands on shares; see README.md. */
public final class DustSums {
    public static final int BAD = -1, STATE = -2, FULL = -3, NONE = -9;

    private static final int IN = 0, CON = 1, ADD = 2, SUB = 3, MUL = 4, OUT = 5;
    private static final int WHAT = 0, FIRST = 1, SECOND = 2, THIRD = 3, NUMBER = 4, DEEP = 5, COLUMNS = 6;
    private static final int HANDS = 3, ROWS = 2, LETTERS = 16;
    private static final int MOST_BYTES = 300, MOST_ITEMS = 16, MOST_INPUTS = 4, MOST_MULS = 4;
    private static final int MOST_LOTS = 40, LOTS_OF_IN = 2, LOTS_OF_MUL = 8;
    private static final int MOST_LIES = 6, MOST_NUMBER = 15, LEAST_MODULUS = 2, MOST_MODULUS = 16;
    private static final int MOST_WAYS = 4096, MOST_PRICE = 999, MOST_ROUNDS = 99;
    private static final int MOST_MONTH = 29, MOST_TAKEN = 30;
    private static final int KINDS = 6;

    private final Text text = new Text();
    private final Task task = new Task();
    private final Reader reader = new Reader();
    private final Run run = new Run();
    private final Trades trades = new Trades();
    private final Curve curve = new Curve();
    private final Months months = new Months();
    private final Spy spies = new Spy();
    private long trace;

    public DustSums() {
    }

    public int type(long v, int n) {
        if (n < 1 || n > 8) return BAD;
        if (text.length + n > MOST_BYTES) return FULL;
        for (int i = n - 1; i >= 0; i--) {
            text.take((int) (v >>> (8 * i)) & 255);
        }
        return text.length;
    }

    public int clear() {
        int had = text.length;
        text.length = 0;
        return had;
    }

    public int program() {
        int fault = reader.faultOf(text);
        if (fault >= 0) return -10 - fault;
        task.begin(reader.draft);
        text.length = 0;
        return task.program.items;
    }

    public int item(int i, int what) {
        if (!task.program.has(i) || !within(what, 0, COLUMNS - 1)) return BAD;
        return task.program.cell(i, what);
    }

    public int modulus(int v) {
        if (!within(v, LEAST_MODULUS, MOST_MODULUS)) return BAD;
        int was = task.modulus;
        task.modulus = v;
        return was;
    }

    public int input(int i, int row, int v) {
        if (!within(i, 0, task.program.inputs - 1) || !within(row, 0, ROWS - 1)) return BAD;
        if (!within(v, 0, MOST_NUMBER)) return BAD;
        return swap(task.inputs, row * MOST_INPUTS + i, v);
    }

    public int lot(int i, int v) {
        if (!within(i, 0, MOST_LOTS - 1) || !within(v, 0, MOST_NUMBER)) return BAD;
        return swap(task.lots, i, v);
    }

    public int lie(int item, int hand, int v) {
        if (!task.program.has(item) || !isHand(hand) || !within(v, 1, MOST_NUMBER)) return BAD;
        int what = task.program.cell(item, WHAT);
        if (what != MUL && what != OUT) return BAD;
        if (task.lieCount >= MOST_LIES) return FULL;
        task.addLie(item, hand, v);
        return task.lieCount;
    }

    public int honest() {
        int were = task.lieCount;
        task.forgetLies();
        return were;
    }

    public int end() {
        run.go(task, 0);
        return run.endShown();
    }

    public int share(int item, int hand) {
        if (!task.program.has(item) || !isHand(hand)) return BAD;
        run.go(task, 0);
        if (task.program.cell(item, WHAT) == OUT) return at(run.shown, hand);
        return run.shareOf(task.program.cell(item, FIRST), hand);
    }

    public int seen(int hand, int k) {
        if (!isHand(hand) || k < -1) return BAD;
        run.go(task, hand);
        if (k == -1) return run.views;
        return k < run.views ? at(run.view, k) : BAD;
    }

    public int spy(int hand, int what) {
        if (!isHand(hand) || !within(what, 0, 1)) return BAD;
        int ways = waysOf(task.modulus, task.program.lotsTaken());
        if (ways > MOST_WAYS) return STATE;
        if (what == 0 && task.rowsAreAlike()) return 0;
        spies.watchFirstRow(task, run, hand, ways);
        if (what == 1) return spies.unlike;
        return spies.secondRowDiffers(task, run, hand, ways) ? 1 : 0;
    }

    public int tells(int hand, int what) {
        if (!isHand(hand) || !within(what, 0, 1)) return BAD;
        int ways = waysOf(task.modulus, task.program.inputs - task.program.inputsOf(hand));
        if (ways > MOST_WAYS) return STATE;
        return what == 1 ? ways : run.sameEnds(task, hand, ways);
    }

    public int trade(int what, int v) {
        if (!within(what, 0, 2) || !within(v, 0, MOST_PRICE)) return BAD;
        return swap(trades.prices, what, v);
    }

    public int least(int rounds, int what) {
        if (!within(rounds, 0, MOST_ROUNDS) || !within(what, 0, 1)) return BAD;
        int set = trades.cheapestSet(task.program, rounds);
        if (set == NONE || what == 1) return set;
        return trades.priceOf(task.program.muls, set);
    }

    public int field(int what, int v) {
        if (!within(what, 0, 2) || !curve.mayBecome(what, v)) return BAD;
        months.beginAnew();
        return curve.become(what, v);
    }

    public int curve(int secret, int c1, int c2) {
        if (!curve.isNumber(secret) || !curve.isNumber(c1) || !curve.isNumber(c2)) return BAD;
        if (curve.degree < 1 && c1 != 0 || curve.degree < 2 && c2 != 0) return BAD;
        curve.draw(secret, c1, c2);
        return curve.points;
    }

    public int point(int hand) {
        return curve.hasHand(hand) ? curve.bentPoint(hand) : BAD;
    }

    public int bend(int hand, int v) {
        if (!curve.hasHand(hand) || !curve.isNumber(v)) return BAD;
        return swap(curve.bends, hand, v);
    }

    public int open(int set, int what) {
        if (!curve.hasSet(set) || !within(what, 0, 1)) return BAD;
        curve.takePoints();
        return curve.opened(set, curve.degree, what);
    }

    public int product(int set, int what) {
        if (!curve.hasSet(set) || !within(what, 0, 1)) return BAD;
        if (Integer.bitCount(set) <= 2 * curve.degree) return STATE;
        curve.takeSquares();
        return curve.opened(set, 2 * curve.degree, what);
    }

    public int month(int fresh) {
        if (!within(fresh, 0, 1)) return BAD;
        if (months.now >= MOST_MONTH) return FULL;
        months.goOn(fresh == 1);
        return months.now;
    }

    public int steal(int hand) {
        if (!curve.hasHand(hand)) return BAD;
        if (months.taken >= MOST_TAKEN) return FULL;
        months.losePoint(hand, curve.degree);
        return months.taken;
    }

    public int known(int what) {
        if (!within(what, 0, 1)) return BAD;
        if (what == 0) return months.secretIsOut ? 1 : 0;
        return months.safeHands(curve.degree);
    }

    public int weight(int kind, int item) {
        if (!within(kind, 0, KINDS - 1) || !task.program.has(item)) return BAD;
        switch (kind) {
            case 0: return shareWeight();
            case 1: return sumWeight(item);
            case 2: return curveWeight();
            case 3: return bitWeight(item);
            case 4: return sealedWeight();
            default: return openedWeight(item);
        }
    }

    public int count(int what) {
        switch (what) {
            case 0: return task.program.items;
            case 1: return task.program.inputs;
            case 2: return task.program.muls;
            case 3: return task.program.lotsTaken();
            case 4: return task.lieCount;
            case 5: return months.now;
            case 6: return text.length;
            case 7: return months.taken;
            default: return BAD;
        }
    }

    public long trace() {
        return trace;
    }

    private int shareWeight() {
        trace += 1;
        return 3;
    }

    private int sumWeight(int item) {
        trace += 10;
        return shareWeight() + task.program.lotsOf(item);
    }

    private int curveWeight() {
        trace += 100;
        return shareWeight() + curve.degree;
    }

    private int bitWeight(int item) {
        trace += 1000;
        return sumWeight(item) * task.modulus;
    }

    private int sealedWeight() {
        trace += 10000;
        // The body above is asked once, and its answer doubled.
        return 2 * curveWeight();
    }

    private int openedWeight(int item) {
        trace += 100000;
        return shareWeight() + task.program.seenOf(item, 0);
    }

    private static boolean within(int v, int least, int most) {
        return v >= least && v <= most;
    }

    private static boolean isHand(int hand) {
        return within(hand, 0, HANDS - 1);
    }

    /** What stands in a row, and 0 beyond its ends: no index is used untested. */
    private static int at(int[] row, int i) {
        return row != null && i >= 0 && i < row.length ? row[i] : 0;
    }

    private static void put(int[] row, int i, int v) {
        if (row != null && i >= 0 && i < row.length) row[i] = v;
    }

    private static int swap(int[] row, int i, int v) {
        int was = at(row, i);
        put(row, i, v);
        return was;
    }

    private static void wipe(int[] row) {
        if (row != null) Arrays.fill(row, 0);
    }

    private static int mod(int v, int m) {
        if (m < 1) return 0;
        int rest = v % m;
        return rest < 0 ? rest + m : rest;
    }

    /** m to the n, or something above MOST_WAYS if it is above that. */
    private static int waysOf(int m, int n) {
        int ways = 1;
        for (int i = 0; i < n && ways <= MOST_WAYS; i++) ways *= m;
        return ways;
    }

    /** THE TEXT. */
    private static final class Text {
        private final byte[] bytes = new byte[MOST_BYTES];
        private int length;

        void take(int b) {
            if (length < 0 || length >= bytes.length) return;
            bytes[length] = (byte) b;
            length++;
        }

        /** The byte at a place, -1 beyond the end. */
        int byteAt(int place) {
            if (place < 0 || place >= length || place >= bytes.length) return -1;
            return bytes[place] & 255;
        }
    }

    /** THE PROGRAM: a row of COLUMNS numbers an ITEM, just as item() tells them. */
    private static final class Program {
        private final int[] cells = new int[MOST_ITEMS * COLUMNS];
        private final int[] depths = new int[LETTERS];
        private int became, items, inputs, muls;

        boolean has(int item) {
            return item >= 0 && item < items;
        }

        int cell(int item, int column) {
            return at(cells, item * COLUMNS + column);
        }

        boolean hasBecome(int letter) {
            return (became >> letter & 1) == 1;
        }

        int lotsTaken() {
            return LOTS_OF_IN * inputs + LOTS_OF_MUL * muls;
        }

        int lotsOf(int item) {
            int what = cell(item, WHAT);
            return what == IN ? LOTS_OF_IN : what == MUL ? LOTS_OF_MUL : 0;
        }

        int seenOf(int item, int hand) {
            switch (cell(item, WHAT)) {
                case IN: return cell(item, NUMBER) == hand ? HANDS : 1;
                case MUL: return 3 + 2 * HANDS;
                case OUT: return HANDS;
                default: return 0;
            }
        }

        int inputsOf(int hand) {
            int own = 0;
            for (int i = 0; i < items; i++) {
                if (cell(i, WHAT) == IN && cell(i, NUMBER) == hand) own++;
            }
            return own;
        }

        void empty() {
            became = 0;
            items = 0;
            inputs = 0;
            muls = 0;
        }

        void take(int what, int first, int second, int third, int number) {
            int row = items * COLUMNS;
            int deep = depthOf(what, first, second, third);
            put(cells, row + WHAT, what);
            put(cells, row + FIRST, first);
            put(cells, row + SECOND, second);
            put(cells, row + THIRD, third);
            put(cells, row + NUMBER, number);
            put(cells, row + DEEP, deep);
            if (what != OUT) put(depths, first, deep);
            became |= 1 << first;
            items++;
            if (what == IN) inputs++;
            if (what == MUL) muls++;
        }

        private int depthOf(int what, int first, int second, int third) {
            switch (what) {
                case ADD:
                case SUB: return Math.max(at(depths, second), at(depths, third));
                case MUL: return Math.max(at(depths, second), at(depths, third)) + 1;
                case OUT: return at(depths, first) + 1;
                default: return 0;
            }
        }

        void become(Program other) {
            for (int i = 0; i < cells.length; i++) cells[i] = at(other.cells, i);
            for (int i = 0; i < depths.length; i++) depths[i] = at(other.depths, i);
            became = other.became;
            items = other.items;
            inputs = other.inputs;
            muls = other.muls;
        }
    }

    /** Reads THE TEXT into a draft, so that a text at fault changes nothing. */
    private static final class Reader {
        private static final int ENDED = 0, WORD = 1, LETTER = 2, DIGITS = 3, STOP = 4, STRANGE = 5;
        private static final int NO_FAULT = -1, MOST_HAND = 2;

        private final Program draft = new Program();
        private int next, start, kind, value;

        /** The place at fault is always the start of the token read last. */
        int faultOf(Text text) {
            draft.empty();
            next = 0;
            for (int i = 0; i < MOST_ITEMS; i++) {
                int what = readItem(text);
                if (what < 0) return start;
                if (what == OUT) {
                    step(text);
                    return kind == ENDED ? NO_FAULT : start;
                }
            }
            return start;
        }

        /** What the ITEM is, or -1 at a fault. */
        private int readItem(Text text) {
            step(text);
            int what = value;
            if (kind != WORD || !mayBegin(what)) return -1;
            step(text);
            int first = value;
            if (kind != LETTER || draft.hasBecome(first) != (what == OUT)) return -1;
            int second = NONE, third = NONE, number = NONE;
            if (what == IN || what == CON) {
                number = readNumber(text, what == IN ? MOST_HAND : MOST_NUMBER);
                if (number < 0) return -1;
            } else if (what != OUT) {
                second = readUsed(text);
                if (second < 0) return -1;
                third = readUsed(text);
                if (third < 0) return -1;
            }
            step(text);
            if (kind != STOP) return -1;
            draft.take(what, first, second, third, number);
            return what;
        }

        private boolean mayBegin(int what) {
            if (what == OUT) return true;
            if (draft.items >= MOST_ITEMS - 1) return false;
            if (what == IN) return draft.inputs < MOST_INPUTS;
            return what != MUL || draft.muls < MOST_MULS;
        }

        private int readUsed(Text text) {
            step(text);
            return kind == LETTER && draft.hasBecome(value) ? value : -1;
        }

        private int readNumber(Text text, int most) {
            step(text);
            return kind == DIGITS && value <= most ? value : -1;
        }

        private void step(Text text) {
            while (next < text.length && text.byteAt(next) == ' ') next++;
            start = next;
            value = 0;
            int b = text.byteAt(next);
            if (b < 0) {
                kind = ENDED;
            } else if (isSmall(b)) {
                readWord(text);
            } else if (isDigit(b)) {
                readDigits(text);
            } else {
                next++;
                value = b - 'A';
                kind = b == ';' ? STOP : within(value, 0, LETTERS - 1) ? LETTER : STRANGE;
            }
        }

        private void readWord(Text text) {
            int packed = 0;
            while (next < text.length && isSmall(text.byteAt(next))) {
                // No word of the language is so long that a byte is shifted out.
                packed = next - start < 3 ? packed << 8 | text.byteAt(next) : 0;
                next++;
            }
            value = whatOf(packed);
            kind = value < 0 ? STRANGE : WORD;
        }

        private static int whatOf(int packed) {
            switch (packed) {
                case 'i' << 8 | 'n': return IN;
                case 'c' << 16 | 'o' << 8 | 'n': return CON;
                case 'a' << 16 | 'd' << 8 | 'd': return ADD;
                case 's' << 16 | 'u' << 8 | 'b': return SUB;
                case 'm' << 16 | 'u' << 8 | 'l': return MUL;
                case 'o' << 16 | 'u' << 8 | 't': return OUT;
                default: return -1;
            }
        }

        private void readDigits(Text text) {
            boolean zeroAhead = text.byteAt(start) == '0';
            while (next < text.length && isDigit(text.byteAt(next))) {
                if (next - start < 2) value = value * 10 + text.byteAt(next) - '0';
                next++;
            }
            int digits = next - start;
            kind = digits > 2 || digits == 2 && zeroAhead ? STRANGE : DIGITS;
        }

        private static boolean isSmall(int b) {
            return within(b, 'a', 'z');
        }

        private static boolean isDigit(int b) {
            return within(b, '0', '9');
        }
    }

    /** THE PROGRAM with all that a RUN of it needs. */
    private static final class Task {
        private final Program program = new Program();
        private final int[] inputs = new int[ROWS * MOST_INPUTS];
        private final int[] lots = new int[MOST_LOTS];
        private final int[] lies = new int[MOST_ITEMS * HANDS];
        private int lieCount;
        private int modulus = 5;

        Task() {
            program.take(CON, 0, NONE, NONE, 0);
            program.take(OUT, 0, NONE, NONE, NONE);
        }

        void begin(Program draft) {
            program.become(draft);
            wipe(inputs);
            forgetLies();
        }

        void addLie(int item, int hand, int v) {
            int place = item * HANDS + hand;
            put(lies, place, at(lies, place) + v);
            lieCount++;
        }

        void forgetLies() {
            wipe(lies);
            lieCount = 0;
        }

        int inputIn(int row, int i) {
            return mod(at(inputs, row * MOST_INPUTS + i), modulus);
        }

        boolean rowsAreAlike() {
            for (int i = 0; i < program.inputs; i++) {
                if (inputIn(0, i) != inputIn(1, i)) return false;
            }
            return true;
        }
    }

    /** A RUN: the SHARES of each V, and what one HAND has SEEN. spy() makes thousands, so it is kept lean. */
    private static final class Run {
        private static final int MOST_SEEN = MOST_INPUTS * HANDS + MOST_MULS * (3 + 2 * HANDS) + HANDS;

        private final int[] shares = new int[LETTERS * HANDS];
        private final int[] shown = new int[HANDS];
        private final int[] shownOfY = new int[HANDS];
        private final int[] triple = new int[3 * HANDS];
        private final int[] view = new int[MOST_SEEN];
        private final int[] trial = new int[MOST_INPUTS];
        private final int[] plain = new int[LETTERS];
        private int views, viewAsNumber, hand, modulus, nextLot, nextInput;

        /** With the LOTS and LIES that are told, and INPUTS of ROW 0. */
        void go(Task task, int hand) {
            go(task, hand, 0, task.lots, task.lies);
        }

        /** Without LIES if lies is null. */
        void go(Task task, int hand, int row, int[] lots, int[] lies) {
            this.hand = hand;
            modulus = task.modulus;
            views = 0;
            viewAsNumber = 0;
            nextLot = 0;
            nextInput = 0;
            int[] cells = task.program.cells;
            int end = Math.min(task.program.items * COLUMNS, cells.length - COLUMNS + 1);
            int lie = 0;
            for (int cell = 0; cell < end; cell += COLUMNS) {
                int first = cells[cell + FIRST] * HANDS;
                int second = cells[cell + SECOND] * HANDS;
                int third = cells[cell + THIRD] * HANDS;
                switch (cells[cell + WHAT]) {
                    case IN: cut(first, cells[cell + NUMBER] == hand, task.inputIn(row, nextInput), lots); break;
                    case CON: fix(first, cells[cell + NUMBER]); break;
                    case ADD: join(first, second, third, 1); break;
                    case SUB: join(first, second, third, -1); break;
                    case MUL:
                        drawTriple(lots);
                        showLessTriple(second, third, lies, lie);
                        multiply(first);
                        break;
                    default: showAll(first, lies, lie); break;
                }
                lie += HANDS;
            }
        }

        int shareOf(int letter, int hand) {
            return at(shares, letter * HANDS + hand);
        }

        int endShown() {
            return mod(at(shown, 0) + at(shown, 1) + at(shown, 2), modulus);
        }

        /** Whether the SHARES of a V may stand there. */
        private boolean isPlace(int place) {
            return place >= 0 && place <= shares.length - HANDS;
        }

        /** All that was SEEN is one number, too; wherever spy() may look, it is below 2 to the 27. */
        private void look(int v) {
            viewAsNumber = viewAsNumber * modulus + v;
            put(view, views, v);
            views++;
        }

        private int drawLot(int[] lots) {
            int v = mod(at(lots, nextLot), modulus);
            nextLot++;
            return v;
        }

        private void cut(int to, boolean own, int input, int[] lots) {
            nextInput++;
            int share0 = drawLot(lots);
            int share1 = drawLot(lots);
            if (!isPlace(to)) return;
            shares[to] = share0;
            shares[to + 1] = share1;
            shares[to + 2] = mod(input - share0 - share1, modulus);
            for (int h = 0; h < HANDS; h++) {
                if (own || h == hand) look(shares[to + h]);
            }
        }

        private void fix(int to, int number) {
            if (!isPlace(to)) return;
            shares[to] = mod(number, modulus);
            shares[to + 1] = 0;
            shares[to + 2] = 0;
        }

        private void join(int to, int x, int y, int sign) {
            if (!isPlace(to) || !isPlace(x) || !isPlace(y)) return;
            for (int h = 0; h < HANDS; h++) {
                shares[to + h] = mod(shares[x + h] + sign * shares[y + h], modulus);
            }
        }

        /** The a's, then the b's, then the c's. */
        private void drawTriple(int[] lots) {
            for (int i = 0; i < LOTS_OF_MUL; i++) put(triple, i, drawLot(lots));
            int aAll = triple[0] + triple[1] + triple[2];
            int bAll = triple[3] + triple[4] + triple[5];
            triple[8] = mod(aAll * bAll - triple[6] - triple[7], modulus);
        }

        private void showLessTriple(int x, int y, int[] lies, int lie) {
            if (!isPlace(x) || !isPlace(y)) return;
            for (int h = 0; h < HANDS; h++) {
                shown[h] = mod(shares[x + h] - triple[h] + at(lies, lie + h), modulus);
                shownOfY[h] = mod(shares[y + h] - triple[HANDS + h], modulus);
            }
            for (int i = hand; i < triple.length; i += HANDS) look(at(triple, i));
            for (int h = 0; h < HANDS; h++) look(shown[h]);
            for (int h = 0; h < HANDS; h++) look(shownOfY[h]);
        }

        private void multiply(int to) {
            if (!isPlace(to)) return;
            int d = shown[0] + shown[1] + shown[2];
            int e = shownOfY[0] + shownOfY[1] + shownOfY[2];
            int extra = d * e;
            for (int h = 0; h < HANDS; h++) {
                int share = triple[2 * HANDS + h] + d * triple[HANDS + h] + e * triple[h];
                shares[to + h] = mod(share + extra, modulus);
                // D times E is HAND 0's alone.
                extra = 0;
            }
        }

        private void showAll(int from, int[] lies, int lie) {
            if (!isPlace(from)) return;
            for (int h = 0; h < HANDS; h++) {
                shown[h] = mod(shares[from + h] + at(lies, lie + h), modulus);
                look(shown[h]);
            }
        }

        /** TELLS: without LIES the SHARES never matter for THE END, so none are cut. */
        int sameEnds(Task task, int hand, int ways) {
            modulus = task.modulus;
            for (int i = 0; i < MOST_INPUTS; i++) put(trial, i, task.inputIn(0, i));
            int due = plainEnd(task.program);
            clearOthers(task.program, hand);
            int same = 0;
            for (int way = 0; way < ways; way++) {
                if (plainEnd(task.program) == due) same++;
                turnOthers(task.program, hand);
            }
            return same;
        }

        private int plainEnd(Program program) {
            int taken = 0;
            for (int i = 0; i < program.items; i++) {
                int x = at(plain, program.cell(i, SECOND));
                int y = at(plain, program.cell(i, THIRD));
                int v = 0;
                switch (program.cell(i, WHAT)) {
                    case IN: v = at(trial, taken); taken++; break;
                    case CON: v = program.cell(i, NUMBER); break;
                    case ADD: v = x + y; break;
                    case SUB: v = x - y; break;
                    case MUL: v = x * y; break;
                    default: return at(plain, program.cell(i, FIRST));
                }
                put(plain, program.cell(i, FIRST), mod(v, modulus));
            }
            return 0;
        }

        private void clearOthers(Program program, int hand) {
            int taken = 0;
            for (int i = 0; i < program.items; i++) {
                if (program.cell(i, WHAT) != IN) continue;
                if (program.cell(i, NUMBER) != hand) put(trial, taken, 0);
                taken++;
            }
        }

        /** The next row of all other INPUTS, like a counter whose digits they are. */
        private void turnOthers(Program program, int hand) {
            int taken = 0;
            for (int i = 0; i < program.items; i++) {
                if (program.cell(i, WHAT) != IN) continue;
                if (program.cell(i, NUMBER) != hand) {
                    int v = mod(at(trial, taken) + 1, modulus);
                    put(trial, taken, v);
                    if (v != 0) return;
                }
                taken++;
            }
        }
    }

    /** SPY: how often each row of what is SEEN comes, kept in a table by hashes. */
    private static final class Spy {
        private static final int BITS = 13, SLOTS = 1 << BITS, SPREAD = 0x9E3779B1;
        /** No row comes more often than MOST_WAYS, so these bits of a slot hold how often. */
        private static final int TIMES_BITS = 13, TIMES = (1 << TIMES_BITS) - 1;

        /** A slot is a key and, in its lowest bits, how often it came: one row, as every object bears it. */
        private final long[] slots = new long[SLOTS];
        private final int[] lots = new int[MOST_LOTS];
        private int unlike;

        void watchFirstRow(Task task, Run run, int hand, int ways) {
            Arrays.fill(slots, 0L);
            wipe(lots);
            unlike = 0;
            for (int way = 0; way < ways; way++) {
                run.go(task, hand, 0, lots, null);
                int key = keyOf(run);
                int slot = slotOf(key);
                long there = slotAt(slot);
                if (there == 0) {
                    there = (long) key << TIMES_BITS;
                    unlike++;
                }
                putSlot(slot, there + 1);
                turnLots(task);
            }
        }

        /** Both rows come equally often in all, so one that comes too often is enough to look for. */
        boolean secondRowDiffers(Task task, Run run, int hand, int ways) {
            wipe(lots);
            for (int way = 0; way < ways; way++) {
                run.go(task, hand, 1, lots, null);
                int slot = slotOf(keyOf(run));
                long there = slotAt(slot);
                if ((there & TIMES) == 0) return true;
                putSlot(slot, there - 1);
                turnLots(task);
            }
            return false;
        }

        /** 0 stands for an empty slot. */
        private static int keyOf(Run run) {
            return run.viewAsNumber + 1;
        }

        private long slotAt(int slot) {
            return slot >= 0 && slot < slots.length ? slots[slot] : 0;
        }

        private void putSlot(int slot, long v) {
            if (slot >= 0 && slot < slots.length) slots[slot] = v;
        }

        /** The key's slot or the empty one where it belongs; half of all slots stay empty. */
        private int slotOf(int key) {
            int slot = key * SPREAD >>> 32 - BITS;
            for (int tries = 0; tries < SLOTS; tries++) {
                long there = slotAt(slot);
                if (there == 0 || there >>> TIMES_BITS == key) return slot;
                slot = slot + 1 & SLOTS - 1;
            }
            return slot;
        }

        private void turnLots(Task task) {
            int taken = task.program.lotsTaken();
            for (int i = 0; i < taken; i++) {
                int v = mod(at(lots, i) + 1, task.modulus);
                put(lots, i, v);
                if (v != 0) return;
            }
        }
    }

    /** TRADES: each mul by NIGHT or by TALK. */
    private static final class Trades {
        private final int[] prices = {10, 4, 20};
        private final int[] rounds = new int[LETTERS];

        int priceOf(int muls, int set) {
            int talks = Integer.bitCount(set);
            return (muls - talks) * (at(prices, 0) + at(prices, 1)) + talks * at(prices, 2);
        }

        /** Sets are tried from the least on, so the first of several stays. */
        int cheapestSet(Program program, int mostRounds) {
            int best = NONE;
            int bestPrice = 0;
            for (int set = 0; set < 1 << program.muls; set++) {
                if (roundsWith(program, set) > mostRounds) continue;
                int price = priceOf(program.muls, set);
                if (best == NONE || price < bestPrice) {
                    best = set;
                    bestPrice = price;
                }
            }
            return best;
        }

        private int roundsWith(Program program, int set) {
            int mul = 0;
            for (int i = 0; i < program.items; i++) {
                int what = program.cell(i, WHAT);
                int first = program.cell(i, FIRST);
                if (what == OUT) return at(rounds, first) + 1;
                int deep = 0;
                if (what != IN && what != CON) {
                    deep = Math.max(at(rounds, program.cell(i, SECOND)), at(rounds, program.cell(i, THIRD)));
                }
                if (what == MUL) {
                    deep += (set >> mul & 1) == 1 ? 2 : 1;
                    mul++;
                }
                put(rounds, first, deep);
            }
            return 0;
        }
    }

    /** The CURVE with its POINTS, and how it is OPENED. */
    private static final class Curve {
        private static final int MOST_POINTS = 6, LEAST_POINTS = 3, MOST_DEGREE = 2;

        private final int[] bends = new int[MOST_POINTS];
        private final int[] heights = new int[MOST_POINTS];
        private int prime = 7, degree = 1, points = 5;
        private int secret, c1, c2;

        boolean mayBecome(int what, int v) {
            if (what == 1) return within(v, 0, MOST_DEGREE);
            if (what == 2) return within(v, LEAST_POINTS, MOST_POINTS) && v < prime;
            return (v == 5 || v == 7 || v == 11 || v == 13) && points < v;
        }

        int become(int what, int v) {
            int was = what == 0 ? prime : what == 1 ? degree : points;
            if (what == 0) {
                prime = v;
            } else if (what == 1) {
                degree = v;
            } else {
                points = v;
            }
            draw(0, 0, 0);
            return was;
        }

        void draw(int secret, int c1, int c2) {
            this.secret = secret;
            this.c1 = c1;
            this.c2 = c2;
            wipe(bends);
        }

        boolean isNumber(int v) {
            return within(v, 0, prime - 1);
        }

        boolean hasHand(int hand) {
            return within(hand, 0, points - 1);
        }

        boolean hasSet(int set) {
            return within(set, 0, (1 << points) - 1);
        }

        int bentPoint(int hand) {
            int x = hand + 1;
            return mod(secret + c1 * x + c2 * x * x + at(bends, hand), prime);
        }

        void takePoints() {
            for (int h = 0; h < points; h++) put(heights, h, bentPoint(h));
        }

        void takeSquares() {
            for (int h = 0; h < points; h++) put(heights, h, mod(bentPoint(h) * bentPoint(h), prime));
        }

        /**
         * The secret (what = 0) or the LIARS (1) of the heights taken, as of a degree. A CURVE that may be
         * OPENED goes through more than degree of them, so it is found from some base of degree + 1 HANDS.
         * Two CURVES share degree HANDS at most: where m is enough, no other CURVE agrees with as many.
         */
        int opened(int set, int degree, int what) {
            int best = 0;
            int bestBase = 0;
            for (int base = 1; base <= set; base++) {
                if ((base & ~set) != 0 || Integer.bitCount(base) != degree + 1) continue;
                int agree = agreeing(set, base);
                if (Integer.bitCount(agree) > Integer.bitCount(best)) {
                    best = agree;
                    bestBase = base;
                }
            }
            int m = Integer.bitCount(best);
            int s = Integer.bitCount(set);
            if (2 * (m - degree) <= s - degree) return NONE;
            return what == 0 ? heightAt(0, bestBase) : set & ~best;
        }

        private int agreeing(int set, int base) {
            int agree = 0;
            for (int h = 0; h < points; h++) {
                if ((set >> h & 1) == 1 && heightAt(h + 1, base) == at(heights, h)) agree |= 1 << h;
            }
            return agree;
        }

        /** Lagrange's sum: the height at x of the CURVE through the base's HANDS. */
        private int heightAt(int x, int base) {
            int sum = 0;
            for (int i = 0; i < points; i++) {
                if ((base >> i & 1) == 0) continue;
                int above = at(heights, i);
                int below = 1;
                for (int j = 0; j < points; j++) {
                    if (j == i || (base >> j & 1) == 0) continue;
                    above = mod(above * (x - j - 1), prime);
                    below = mod(below * (i - j), prime);
                }
                sum += above * inverse(below);
            }
            return mod(sum, prime);
        }

        private int inverse(int v) {
            for (int r = 1; r < prime; r++) {
                if (mod(r * v, prime) == 1) return r;
            }
            return 0;
        }
    }

    /** MONTHS and THIEVES: only HANDS taken since the last FRESH MONTH can still add up. */
    private static final class Months {
        private int now, taken, handsTaken;
        private boolean secretIsOut;

        void beginAnew() {
            now = 0;
            taken = 0;
            handsTaken = 0;
            secretIsOut = false;
        }

        void goOn(boolean fresh) {
            now++;
            if (fresh) handsTaken = 0;
        }

        void losePoint(int hand, int degree) {
            taken++;
            handsTaken |= 1 << hand;
            if (Integer.bitCount(handsTaken) > degree) secretIsOut = true;
        }

        int safeHands(int degree) {
            return secretIsOut ? 0 : degree - Integer.bitCount(handsTaken);
        }
    }
}
