import java.lang.reflect.InvocationTargetException;
import java.lang.reflect.Method;
import java.util.ArrayList;
import java.util.Arrays;
import java.util.Comparator;
import java.util.List;
import java.util.Set;
import java.util.TreeSet;

/**
 * What the tests of boundary cases share. Each test is a static method whose name begins with promiseNN_ and goes
 * on with the case. Whether a refused call left anything behind is seen by twins: two objects with the same calls,
 * but for the refused one, must answer alike whatever is asked of them later.
 */
abstract class Edges {
    private static final Checks CHECKS = new Checks("EdgesTest");
    private static final int PROMISES = 29;
    private static String test = "";

    interface Setup {
        void on(DustSums x);
    }

    interface Call {
        long on(DustSums x);
    }

    interface CallWith {
        long on(DustSums x, int v);
    }

    // ---- running the tests

    static void runAll(Class<?>... classes) {
        Set<Integer> promises = new TreeSet<>();
        int tests = 0;
        for (Class<?> one : classes) {
            Method[] methods = one.getDeclaredMethods();
            Arrays.sort(methods, Comparator.comparing(Method::getName));
            for (Method method : methods) {
                if (!method.getName().matches("promise\\d\\d_\\w+")) continue;
                promises.add(Integer.parseInt(method.getName().substring(7, 9)));
                run(method);
                tests++;
            }
        }
        test = "all promises have tests " + promises;
        due("promises", promises.size(), PROMISES);
        System.out.println("EdgesTest: " + tests + " boundary cases");
        CHECKS.close();
    }

    private static void run(Method method) {
        test = method.getName();
        try {
            method.invoke(null);
        } catch (InvocationTargetException thrown) {
            due("threw " + thrown.getCause(), 1, 0);
        } catch (IllegalAccessException hidden) {
            due("can't be run: " + hidden, 1, 0);
        }
    }

    // ---- what tests say

    static void due(String call, long got, long want) {
        CHECKS.due(test + ": " + call, got, want);
    }

    /** The call is refused on an object with that setup, and later calls answer as if it had not been made. */
    static void refused(String call, Setup setup, Call asked, long want) {
        for (int view = 0; view < VIEWS; view++) {
            DustSums one = new DustSums();
            DustSums twin = new DustSums();
            setup.on(one);
            setup.on(twin);
            due(call, asked.on(one), want);
            List<Long> answers = look(view, one);
            List<Long> wanted = look(view, twin);
            due(call + " changed how much view " + view + " tells", answers.size(), wanted.size());
            for (int i = 0; i < Math.min(answers.size(), wanted.size()); i++) {
                due(call + " changed answer " + i + " of view " + view, answers.get(i), wanted.get(i));
            }
        }
    }

    /** Every number from least to most is taken; those beside them and the farthest are BAD and change nothing. */
    static void range(String call, Setup setup, CallWith asked, int least, int most) {
        for (int v = least; v <= most; v++) {
            DustSums x = new DustSums();
            setup.on(x);
            long answer = asked.on(x, v);
            due(call + " of " + v + " is not BAD", answer == DustSums.BAD ? 1 : 0, 0);
        }
        for (int v : new int[] {least - 1, most + 1, Integer.MIN_VALUE, Integer.MAX_VALUE}) {
            refused(call + " of " + v, setup, x -> asked.on(x, v), DustSums.BAD);
        }
    }

    // ---- objects to begin with

    static void fresh(DustSums x) {
    }

    static Setup program(String text) {
        return x -> load(x, text);
    }

    static void load(DustSums x, String text) {
        if (Checks.load(x, text) < 0) due("no program: " + text, 1, 0);
    }

    static DustSums with(String text) {
        DustSums x = new DustSums();
        load(x, text);
        return x;
    }

    /** Nothing is as it was at first, so that whatever a refused call would change shows. */
    static void busy(DustSums x) {
        load(x, "in A 2;in B 1;mul C A B;out C;");
        x.modulus(2);
        for (int i = 0; i < 4; i++) x.input(i / 2, i % 2, 15 - 3 * i);
        for (int i = 0; i < 40; i++) x.lot(i, (i * 5 + 3) % 16);
        x.lie(2, 1, 3);
        x.lie(3, 2, 1);
        for (int what = 0; what < 3; what++) x.trade(what, 7 + 5 * what);
        x.field(0, 11);
        x.field(2, 6);
        x.field(1, 2);
        x.curve(10, 9, 8);
        x.bend(4, 3);
        x.steal(0);
        x.month(1);
        x.steal(1);
        x.month(0);
        x.weight(5, 2);
        Checks.typeText(x, "con D 1");
    }

    /** Types as many bytes, blanks all of them. */
    static void typeBlanks(DustSums x, int bytes) {
        Checks.typeText(x, " ".repeat(bytes));
    }

    /** A good text of ITEMS, so many of each kind; the V's are A and those behind it. */
    static String textOf(int ins, int muls) {
        StringBuilder text = new StringBuilder();
        char next = 'A';
        for (int i = 0; i < ins; i++) text.append("in ").append(next++).append(" 0;");
        if (ins == 0) text.append("con ").append(next++).append(" 1;");
        for (int i = 0; i < muls; i++) text.append("mul ").append(next++).append(" A A;");
        return text.append("out A;").toString();
    }

    // ---- what can be asked of an object, in views that stay within its 512 calls

    private static final int VIEWS = 6;

    private static List<Long> look(int view, DustSums x) {
        List<Long> answers = new ArrayList<>();
        switch (view) {
            case 0 -> lookAtTask(x, answers);
            case 1 -> lookAtRun(x, answers);
            case 2 -> lookAtSpies(x, answers);
            case 3 -> lookAtCurve(x, answers);
            case 4 -> lookAtMonths(x, answers);
            default -> lookAtText(x, answers);
        }
        return answers;
    }

    private static void lookAtItems(DustSums x, List<Long> answers) {
        for (int what = 0; what < 8; what++) answers.add((long) x.count(what));
        for (int i = 0; i < x.count(0); i++) {
            for (int what = 0; what < 6; what++) answers.add((long) x.item(i, what));
        }
    }

    private static void lookAtTask(DustSums x, List<Long> answers) {
        lookAtItems(x, answers);
        for (int i = 0; i < x.count(1); i++) {
            for (int row = 0; row < 2; row++) answers.add((long) x.input(i, row, 0));
        }
        for (int i = 0; i < 40; i++) answers.add((long) x.lot(i, 0));
        answers.add((long) x.end());
        answers.add((long) x.honest());
        answers.add((long) x.end());
        answers.add((long) x.modulus(16));
    }

    private static void lookAtRun(DustSums x, List<Long> answers) {
        answers.add((long) x.end());
        for (int hand = 0; hand < 3; hand++) {
            for (int i = 0; i < x.count(0); i++) answers.add((long) x.share(i, hand));
            int seen = x.seen(hand, -1);
            for (int k = -1; k < seen; k++) answers.add((long) x.seen(hand, k));
        }
    }

    private static void lookAtSpies(DustSums x, List<Long> answers) {
        for (int hand = 0; hand < 3; hand++) {
            answers.add((long) x.spy(hand, 1));
            for (int what = 0; what < 2; what++) answers.add((long) x.tells(hand, what));
        }
        answers.add((long) x.spy(0, 0));
        for (int rounds = 0; rounds < 10; rounds++) {
            for (int what = 0; what < 2; what++) answers.add((long) x.least(rounds, what));
        }
        for (int what = 0; what < 3; what++) answers.add((long) x.trade(what, 1));
    }

    private static void lookAtCurve(DustSums x, List<Long> answers) {
        for (int hand = 0; hand < 6; hand++) answers.add((long) x.point(hand));
        for (int set = 0; set < 64; set++) {
            answers.add((long) x.open(set, set & 1));
            answers.add((long) x.product(set, set & 1));
        }
        for (int hand = 0; hand < 6; hand++) answers.add((long) x.bend(hand, 0));
        answers.add((long) x.open(63, 0));
        answers.add((long) x.curve(4, 0, 0));
        for (int[] change : new int[][] {{2, 3}, {1, 0}, {0, 13}}) answers.add((long) x.field(change[0], change[1]));
    }

    private static void lookAtMonths(DustSums x, List<Long> answers) {
        answers.add(x.trace());
        for (int kind = 0; kind < 6; kind++) answers.add((long) x.weight(kind, 1));
        answers.add(x.trace());
        for (int step = 0; step < 12; step++) {
            answers.add((long) x.known(0));
            answers.add((long) x.known(1));
            answers.add((long) x.steal(step % 5));
            if (step % 4 == 3) answers.add((long) x.month(step == 7 ? 1 : 0));
            answers.add((long) x.count(5));
            answers.add((long) x.count(7));
        }
    }

    private static void lookAtText(DustSums x, List<Long> answers) {
        answers.add((long) x.program());
        lookAtItems(x, answers);
        answers.add(x.type(0x353B6F757420443BL, 8) + 0L);
        answers.add((long) x.program());
        lookAtItems(x, answers);
        answers.add((long) x.clear());
        answers.add((long) x.program());
    }
}
