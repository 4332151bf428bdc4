import java.util.ArrayList;
import java.util.HashMap;
import java.util.List;
import java.util.Map;

/**
 * The document once more, by other ways and without care for time: every CURVE is tried, every RUN is kept
 * whole, all that THIEVES took is kept. ModelTest holds the class against it.
 */
final class Model {
    private static final List<String> WORDS = List.of("in", "con", "add", "sub", "mul", "out");
    private static final int[] NEEDED_ABOVE = {-1, 0, 0, 1, 2, 0};
    private static final long[] BRACKETS = {1, 10, 100, 1000, 10000, 100000};

    /** One ITEM: names of V's as letters. */
    private record Item(String word, char v, char x, char y, int number) {
    }

    /** What happened in a RUN. */
    private static final class Story {
        final Map<Character, int[]> shares = new HashMap<>();
        final List<List<Integer>> seen = List.of(new ArrayList<>(), new ArrayList<>(), new ArrayList<>());
        int[] shown;
        int end;
    }

    private String text = "";
    private List<Item> items = parse("con A 0;out A;").items;
    private int m = 5;
    private int[][] inputs = new int[2][4];
    private final int[] lots = new int[40];
    private final List<int[]> lies = new ArrayList<>();
    private final int[] trades = {10, 4, 20};
    private int q = 7, g = 1, n = 5;
    private int[] coefficients = new int[3];
    private int[] bends = new int[6];
    private final List<Boolean> fresh = new ArrayList<>(List.of(true));
    private final List<int[]> taken = new ArrayList<>();
    private long trace = 0;

    // ---- programs

    private record Token(int place, String body) {
    }

    private record Parsed(List<Item> items, int fault) {
    }

    private static List<Token> tokens(String text) {
        List<Token> found = new ArrayList<>();
        java.util.regex.Matcher matcher = java.util.regex.Pattern.compile("[a-z]+|[0-9]+|[^ ]", java.util.regex.Pattern.DOTALL).matcher(text);
        while (matcher.find()) found.add(new Token(matcher.start(), matcher.group()));
        return found;
    }

    private static Parsed parse(String text) {
        List<Token> tokens = tokens(text);
        List<Item> items = new ArrayList<>();
        List<Character> made = new ArrayList<>();
        int at = 0;
        while (true) {
            boolean ended = !items.isEmpty() && items.get(items.size() - 1).word.equals("out");
            if (at == tokens.size()) return new Parsed(items, ended ? -1 : text.length());
            if (ended) return new Parsed(items, tokens.get(at).place);
            String word = tokens.get(at).body;
            boolean known = WORDS.contains(word);
            boolean tooMany = word.equals("in") && times(items, "in") == 4 || word.equals("mul") && times(items, "mul") == 4
                    || !word.equals("out") && items.size() == 15;
            if (!known || tooMany) return new Parsed(items, tokens.get(at).place);
            String form = word.equals("out") ? "U;" : word.equals("in") ? "NH;" : word.equals("con") ? "NC;" : "NUU;";
            List<String> parts = new ArrayList<>();
            for (int i = 0; i < form.length(); i++) {
                at++;
                if (at == tokens.size()) return new Parsed(items, text.length());
                if (!fits(form.charAt(i), tokens.get(at).body, made)) return new Parsed(items, tokens.get(at).place);
                parts.add(tokens.get(at).body);
            }
            at++;
            char v = parts.get(0).charAt(0);
            boolean two = form.equals("NUU;");
            boolean number = form.length() == 3;
            items.add(new Item(word, v, two ? parts.get(1).charAt(0) : 0, two ? parts.get(2).charAt(0) : 0,
                    number ? Integer.parseInt(parts.get(1)) : -9));
            made.add(v);
        }
    }

    private static boolean fits(char form, String body, List<Character> made) {
        boolean letter = body.matches("[A-P]");
        switch (form) {
            case 'N': return letter && !made.contains(body.charAt(0));
            case 'U': return letter && made.contains(body.charAt(0));
            case 'H': return body.matches("[012]");
            case 'C': return body.matches("[0-9]|1[0-5]");
            default: return body.equals(";");
        }
    }

    private static int times(List<Item> items, String word) {
        return (int) items.stream().filter(item -> item.word.equals(word)).count();
    }

    int type(long v, int n) {
        if (n < 1 || n > 8) return -1;
        if (text.length() + n > 300) return -3;
        String added = "";
        for (int i = 0; i < n; i++) added = (char) (v >> 8 * i & 255) + added;
        text += added;
        return text.length();
    }

    int clear() {
        int had = text.length();
        text = "";
        return had;
    }

    int program() {
        Parsed parsed = parse(text);
        if (parsed.fault >= 0) return -10 - parsed.fault;
        items = parsed.items;
        inputs = new int[2][4];
        lies.clear();
        text = "";
        return items.size();
    }

    private static int letter(char c) {
        return c == 0 ? -9 : c - 'A';
    }

    int item(int i, int what) {
        if (i < 0 || i >= items.size() || what < 0 || what > 5) return -1;
        Item item = items.get(i);
        return switch (what) {
            case 0 -> WORDS.indexOf(item.word);
            case 1 -> letter(item.v);
            case 2 -> letter(item.x);
            case 3 -> letter(item.y);
            case 4 -> item.number;
            default -> deep(i, 0);
        };
    }

    private int maker(char v) {
        for (int i = 0; i < items.size(); i++) {
            if (items.get(i).v == v && !items.get(i).word.equals("out")) return i;
        }
        throw new IllegalStateException();
    }

    /** By recursion from the ITEM back; bits of talk make a mul two rounds deep. */
    private int deep(int i, int talk) {
        Item item = items.get(i);
        switch (item.word) {
            case "in":
            case "con": return 0;
            case "out": return deep(maker(item.v), talk) + 1;
            default:
                int both = Math.max(deep(maker(item.x), talk), deep(maker(item.y), talk));
                if (!item.word.equals("mul")) return both;
                int order = times(items.subList(0, i), "mul");
                return both + 1 + (talk >> order & 1);
        }
    }

    int modulus(int v) {
        if (v < 2 || v > 16) return -1;
        int was = m;
        m = v;
        return was;
    }

    int input(int i, int row, int v) {
        if (i < 0 || i >= times(items, "in") || row < 0 || row > 1 || v < 0 || v > 15) return -1;
        int was = inputs[row][i];
        inputs[row][i] = v;
        return was;
    }

    int lot(int i, int v) {
        if (i < 0 || i > 39 || v < 0 || v > 15) return -1;
        int was = lots[i];
        lots[i] = v;
        return was;
    }

    int lie(int item, int hand, int v) {
        if (item < 0 || item >= items.size() || hand < 0 || hand > 2 || v < 1 || v > 15) return -1;
        if (!List.of("mul", "out").contains(items.get(item).word)) return -1;
        if (lies.size() == 6) return -3;
        lies.add(new int[] {item, hand, v});
        return lies.size();
    }

    int honest() {
        int were = lies.size();
        lies.clear();
        return were;
    }

    // ---- runs

    private int reduced(int v) {
        return Math.floorMod(v, m);
    }

    private int lied(List<int[]> told, int item, int hand) {
        int sum = 0;
        for (int[] lie : told) {
            if (lie[0] == item && lie[1] == hand) sum += lie[2];
        }
        return sum;
    }

    private Story story(int[] row, int[] drawn, List<int[]> told) {
        Story story = new Story();
        int lot = 0;
        int input = 0;
        for (int i = 0; i < items.size(); i++) {
            Item item = items.get(i);
            int[] x = story.shares.get(item.x);
            int[] y = story.shares.get(item.y);
            int[] made = new int[3];
            switch (item.word) {
                case "in" -> {
                    made[0] = reduced(drawn[lot++]);
                    made[1] = reduced(drawn[lot++]);
                    made[2] = reduced(row[input++] - made[0] - made[1]);
                    for (int h = 0; h < 3; h++) {
                        for (int other = 0; other < 3; other++) {
                            if (other == h || item.number == h) story.seen.get(h).add(made[other]);
                        }
                    }
                }
                case "con" -> made[0] = reduced(item.number);
                case "add" -> {
                    for (int h = 0; h < 3; h++) made[h] = reduced(x[h] + y[h]);
                }
                case "sub" -> {
                    for (int h = 0; h < 3; h++) made[h] = reduced(x[h] - y[h]);
                }
                case "mul" -> {
                    int[] a = {drawn[lot], drawn[lot + 1], drawn[lot + 2]};
                    int[] b = {drawn[lot + 3], drawn[lot + 4], drawn[lot + 5]};
                    int product = (a[0] + a[1] + a[2]) * (b[0] + b[1] + b[2]);
                    int[] c = {drawn[lot + 6], drawn[lot + 7], product - drawn[lot + 6] - drawn[lot + 7]};
                    lot += 8;
                    int[] showX = new int[3];
                    int[] showY = new int[3];
                    for (int h = 0; h < 3; h++) {
                        showX[h] = reduced(x[h] - a[h] + lied(told, i, h));
                        showY[h] = reduced(y[h] - b[h]);
                    }
                    int d = showX[0] + showX[1] + showX[2];
                    int e = showY[0] + showY[1] + showY[2];
                    for (int h = 0; h < 3; h++) {
                        made[h] = reduced(c[h] + d * b[h] + e * a[h] + (h == 0 ? d * e : 0));
                        List<Integer> seen = story.seen.get(h);
                        seen.addAll(List.of(reduced(a[h]), reduced(b[h]), reduced(c[h])));
                        for (int s : showX) seen.add(s);
                        for (int s : showY) seen.add(s);
                    }
                }
                default -> {
                    int[] shares = story.shares.get(item.v);
                    story.shown = new int[3];
                    for (int h = 0; h < 3; h++) story.shown[h] = reduced(shares[h] + lied(told, i, h));
                    for (int h = 0; h < 3; h++) {
                        for (int s : story.shown) story.seen.get(h).add(s);
                    }
                    story.end = reduced(story.shown[0] + story.shown[1] + story.shown[2]);
                    continue;
                }
            }
            story.shares.put(item.v, made);
        }
        return story;
    }

    private Story told() {
        return story(inputs[0], lots, lies);
    }

    int end() {
        return told().end;
    }

    int share(int item, int hand) {
        if (item < 0 || item >= items.size() || hand < 0 || hand > 2) return -1;
        Story story = told();
        if (items.get(item).word.equals("out")) return story.shown[hand];
        return story.shares.get(items.get(item).v)[hand];
    }

    int seen(int hand, int k) {
        if (hand < 0 || hand > 2) return -1;
        List<Integer> seen = told().seen.get(hand);
        if (k == -1) return seen.size();
        return k < 0 || k >= seen.size() ? -1 : seen.get(k);
    }

    private int lotsOf(int item) {
        String word = items.get(item).word;
        return word.equals("in") ? 2 : word.equals("mul") ? 8 : 0;
    }

    private int lotsTaken() {
        int sum = 0;
        for (int i = 0; i < items.size(); i++) sum += lotsOf(i);
        return sum;
    }

    private Map<List<Integer>, Integer> often(int hand, int row, int ways) {
        Map<List<Integer>, Integer> often = new HashMap<>();
        for (int way = 0; way < ways; way++) {
            int[] drawn = new int[40];
            int rest = way;
            for (int i = 0; i < lotsTaken(); i++) {
                drawn[i] = rest % m;
                rest /= m;
            }
            often.merge(story(inputs[row], drawn, List.of()).seen.get(hand), 1, Integer::sum);
        }
        return often;
    }

    int spy(int hand, int what) {
        if (hand < 0 || hand > 2 || what < 0 || what > 1) return -1;
        double ways = Math.pow(m, lotsTaken());
        if (ways > 4096) return -2;
        Map<List<Integer>, Integer> first = often(hand, 0, (int) ways);
        if (what == 1) return first.size();
        return first.equals(often(hand, 1, (int) ways)) ? 0 : 1;
    }

    int tells(int hand, int what) {
        if (hand < 0 || hand > 2 || what < 0 || what > 1) return -1;
        List<Item> ins = items.stream().filter(item -> item.word.equals("in")).toList();
        int others = (int) ins.stream().filter(item -> item.number != hand).count();
        double ways = Math.pow(m, others);
        if (ways > 4096) return -2;
        if (what == 1) return (int) ways;
        int due = story(inputs[0], lots, List.of()).end;
        int same = 0;
        for (int way = 0; way < ways; way++) {
            int[] row = inputs[0].clone();
            int rest = way;
            for (int i = 0; i < ins.size(); i++) {
                if (ins.get(i).number == hand) continue;
                row[i] = rest % m;
                rest /= m;
            }
            if (story(row, lots, List.of()).end == due) same++;
        }
        return same;
    }

    // ---- trades

    int trade(int what, int v) {
        if (what < 0 || what > 2 || v < 0 || v > 999) return -1;
        int was = trades[what];
        trades[what] = v;
        return was;
    }

    int least(int rounds, int what) {
        if (rounds < 0 || rounds > 99 || what < 0 || what > 1) return -1;
        int muls = times(items, "mul");
        int bestSet = -9;
        int bestPrice = -9;
        for (int set = (1 << muls) - 1; set >= 0; set--) {
            int price = 0;
            for (int k = 0; k < muls; k++) price += (set >> k & 1) == 1 ? trades[2] : trades[0] + trades[1];
            if (deep(items.size() - 1, set) <= rounds && (bestSet == -9 || price <= bestPrice)) {
                bestSet = set;
                bestPrice = price;
            }
        }
        return what == 0 ? bestPrice : bestSet;
    }

    // ---- curves

    int field(int what, int v) {
        if (what < 0 || what > 2) return -1;
        int newQ = what == 0 ? v : q;
        int newG = what == 1 ? v : g;
        int newN = what == 2 ? v : n;
        if (!List.of(5, 7, 11, 13).contains(newQ) || newG < 0 || newG > 2 || newN < 3 || newN > 6 || newN >= newQ) return -1;
        int was = what == 0 ? q : what == 1 ? g : n;
        q = newQ;
        g = newG;
        n = newN;
        coefficients = new int[3];
        bends = new int[6];
        fresh.clear();
        fresh.add(true);
        taken.clear();
        return was;
    }

    int curve(int secret, int c1, int c2) {
        for (int v : new int[] {secret, c1, c2}) {
            if (v < 0 || v >= q) return -1;
        }
        if (g == 0 && c1 != 0 || g != 2 && c2 != 0) return -1;
        coefficients = new int[] {secret, c1, c2};
        bends = new int[6];
        return n;
    }

    int point(int hand) {
        if (hand < 0 || hand >= n) return -1;
        return (valueAt(coefficients, hand + 1) + bends[hand]) % q;
    }

    private int valueAt(int[] curve, int x) {
        int value = 0;
        for (int i = curve.length - 1; i >= 0; i--) value = (value * x + curve[i]) % q;
        return value;
    }

    int bend(int hand, int v) {
        if (hand < 0 || hand >= n || v < 0 || v >= q) return -1;
        int was = bends[hand];
        bends[hand] = v;
        return was;
    }

    int open(int set, int what) {
        if (set < 0 || set >= 1 << n || what < 0 || what > 1) return -1;
        int[] heights = new int[n];
        for (int h = 0; h < n; h++) heights[h] = point(h);
        return opened(set, what, g, heights);
    }

    int product(int set, int what) {
        if (set < 0 || set >= 1 << n || what < 0 || what > 1) return -1;
        if (Integer.bitCount(set) <= 2 * g) return -2;
        int[] heights = new int[n];
        for (int h = 0; h < n; h++) heights[h] = point(h) * point(h) % q;
        return opened(set, what, 2 * g, heights);
    }

    private int opened(int set, int what, int degree, int[] heights) {
        int[] curve = new int[degree + 1];
        int most = -1;
        int curves = 0;
        int secret = 0;
        int liars = 0;
        do {
            int agree = 0;
            for (int h = 0; h < n; h++) {
                if ((set >> h & 1) == 1 && valueAt(curve, h + 1) == heights[h]) agree |= 1 << h;
            }
            int many = Integer.bitCount(agree);
            if (many > most) {
                most = many;
                curves = 0;
                secret = curve[0];
                liars = set - agree;
            }
            if (many == most) curves++;
        } while (next(curve));
        if (curves != 1 || 2 * (most - degree) <= Integer.bitCount(set) - degree) return -9;
        return what == 0 ? secret : liars;
    }

    private boolean next(int[] curve) {
        for (int i = 0; i < curve.length; i++) {
            curve[i] = (curve[i] + 1) % q;
            if (curve[i] != 0) return true;
        }
        return false;
    }

    // ---- months

    int month(int isFresh) {
        if (isFresh < 0 || isFresh > 1) return -1;
        if (fresh.size() == 30) return -3;
        fresh.add(isFresh == 1);
        return fresh.size() - 1;
    }

    int steal(int hand) {
        if (hand < 0 || hand >= n) return -1;
        if (taken.size() == 30) return -3;
        taken.add(new int[] {hand, fresh.size() - 1});
        return taken.size();
    }

    /** HANDS taken in the months from one to another. */
    private long handsTaken(int from, int to) {
        return taken.stream().filter(t -> t[1] >= from && t[1] <= to).map(t -> t[0]).distinct().count();
    }

    private boolean secretIsOut() {
        for (int from = 0; from < fresh.size(); from++) {
            for (int to = from; to < fresh.size() && (to == from || !fresh.get(to)); to++) {
                if (handsTaken(from, to) > g) return true;
            }
        }
        return false;
    }

    int known(int what) {
        if (what < 0 || what > 1) return -1;
        if (what == 0) return secretIsOut() ? 1 : 0;
        if (secretIsOut()) return 0;
        return g - (int) handsTaken(fresh.lastIndexOf(true), fresh.size() - 1);
    }

    int weight(int kind, int item) {
        if (kind < 0 || kind > 5 || item < 0 || item >= items.size()) return -1;
        trace += BRACKETS[kind];
        if (kind == 0) return 3;
        int up = weight(NEEDED_ABOVE[kind], item);
        switch (kind) {
            case 1: return up + lotsOf(item);
            case 2: return up + g;
            case 3: return up * m;
            case 4: return up + up;
            default:
                Item weighed = items.get(item);
                int seen = weighed.word.equals("mul") ? 9 : weighed.word.equals("out") ? 3
                        : !weighed.word.equals("in") ? 0 : weighed.number == 0 ? 3 : 1;
                return up + seen;
        }
    }

    int count(int what) {
        switch (what) {
            case 0: return items.size();
            case 1: return times(items, "in");
            case 2: return times(items, "mul");
            case 3: return lotsTaken();
            case 4: return lies.size();
            case 5: return fresh.size() - 1;
            case 6: return text.length();
            case 7: return taken.size();
            default: return -1;
        }
    }

    long trace() {
        return trace;
    }
}
