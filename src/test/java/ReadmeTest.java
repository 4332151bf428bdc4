import java.io.IOException;
import java.lang.reflect.InvocationTargetException;
import java.lang.reflect.Method;
import java.lang.reflect.Modifier;
import java.nio.file.Files;
import java.nio.file.Path;
import java.util.ArrayList;
import java.util.Arrays;
import java.util.List;
import java.util.Map;
import java.util.Random;
import java.util.TreeMap;
import java.util.TreeSet;
import java.util.regex.Matcher;
import java.util.regex.Pattern;
import java.util.stream.Stream;

/** README.md says what the class does: its example, its constants, its table of calls, its list of tests. */
public final class ReadmeTest {
    private static final Checks CHECKS = new Checks("ReadmeTest");
    private static final Map<Long, String> CONSTANTS = Map.of(-1L, "BAD", -2L, "STATE", -3L, "FULL", -9L, "NONE");
    private static final Map<String, Method> CALLS = new TreeMap<>();

    public static void main(String[] args) throws IOException, ReflectiveOperationException {
        for (Method method : DustSums.class.getDeclaredMethods()) {
            if (Modifier.isPublic(method.getModifiers())) CALLS.put(method.getName(), method);
        }
        String page = Files.readString(Path.of("README.md"));
        example(page);
        programText(page);
        constants(page);
        calls(page);
        tests(page);
        CHECKS.close();
    }

    /** Each line of the example answers the number behind it. */
    private static void example(String page) throws ReflectiveOperationException {
        DustSums x = new DustSums();
        Matcher line = Pattern.compile("(?m)^x\\.(\\w+)\\((.*?)\\);\\s+// (-?\\d+):").matcher(page);
        int lines = 0;
        while (line.find()) {
            lines++;
            String[] told = line.group(2).isEmpty() ? new String[0] : line.group(2).split(", ");
            long[] numbers = Arrays.stream(told).mapToLong(t -> Long.decode(t.replace("L", ""))).toArray();
            CHECKS.due(line.group().trim(), answer(x, CALLS.get(line.group(1)), numbers), Long.parseLong(line.group(3)));
        }
        long all = Pattern.compile("(?m)^x\\.").matcher(page).results().count();
        CHECKS.due("every line of the example has its answer", lines, all);
        CHECKS.due("there is an example", lines > 0 ? 1 : 0, 1);
    }

    /** The ITEMS that stand before what they mean are a program together. */
    private static void programText(String page) {
        StringBuilder text = new StringBuilder();
        Matcher item = Pattern.compile("(?m)^ {4}((?:in|con|add|sub|mul|out) [A-P0-9 ]+;)").matcher(page);
        while (item.find()) text.append(item.group(1));
        CHECKS.due("items of " + text, Checks.load(new DustSums(), text.toString()), 6);
    }

    private static void constants(String page) {
        for (Map.Entry<Long, String> one : CONSTANTS.entrySet()) {
            boolean told = page.contains("| `" + one.getValue() + "` | " + one.getKey() + " | ");
            CHECKS.due(one.getValue() + " is told with its number", told ? 1 : 0, 1);
        }
    }

    /** Each call has a row with as many arguments, and answers just those constants that its row names. */
    private static void calls(String page) throws ReflectiveOperationException {
        Matcher row = Pattern.compile("(?m)^\\| `(\\w+)\\((.*?)\\)` \\| .* \\|([A-Z ]*)\\|$").matcher(page);
        List<String> rows = new ArrayList<>();
        while (row.find()) {
            String name = row.group(1);
            rows.add(name);
            Method call = CALLS.get(name);
            CHECKS.due("there is a call " + name, call == null ? 0 : 1, 1);
            if (call == null) continue;
            int arguments = row.group(2).isEmpty() ? 0 : row.group(2).split(", ").length;
            CHECKS.due("arguments of " + name, arguments, call.getParameterCount());
            TreeSet<String> told = new TreeSet<>(List.of(row.group(3).trim().split(" +")));
            told.remove("");
            TreeSet<String> came = constantsThatCome(call);
            CHECKS.due(name + " names " + told + ", and " + came + " come", told.equals(came) ? 1 : 0, 1);
        }
        CHECKS.due("each call has one row: " + rows, rows.size(), CALLS.size());
        CHECKS.due("all calls have rows: " + rows, new TreeSet<>(rows).equals(CALLS.keySet()) ? 1 : 0, 1);
    }

    /** By many calls on objects in unlike states; the seed stands, so they are always the same. */
    private static TreeSet<String> constantsThatCome(Method call) throws ReflectiveOperationException {
        Random lots = new Random(29);
        TreeSet<String> came = new TreeSet<>();
        for (int state = 0; state < 12; state++) {
            DustSums x = inState(state);
            for (int i = 0; i < 400; i++) {
                long[] numbers = new long[call.getParameterCount()];
                for (int k = 0; k < numbers.length; k++) numbers[k] = lots.nextInt(lots.nextBoolean() ? 4 : 66) - 1;
                String constant = CONSTANTS.get(answer(x, call, numbers));
                if (constant != null) came.add(constant);
            }
        }
        return came;
    }

    private static DustSums inState(int state) {
        String[] texts = {"con A 0;out A;", "in A 0;in B 1;in C 1;in D 1;mul E A B;out E;", "in A 0;out A;"};
        DustSums x = Checks.with(texts[state % 3]);
        x.modulus(state % 2 == 0 ? 2 : 16);
        x.field(1, state / 4);
        x.field(2, 6);
        x.bend(0, 3);
        x.bend(1, 6);
        return x;
    }

    private static void tests(String page) throws IOException {
        try (Stream<Path> files = Files.list(Path.of("src/test/java"))) {
            for (Path file : files.toList()) {
                String name = file.getFileName().toString().replace(".java", "");
                if (!name.matches(".*Test|.+Edges")) continue;
                CHECKS.due("README.md names " + name, page.contains("`" + name + "`") ? 1 : 0, 1);
            }
        }
    }

    private static long answer(DustSums x, Method call, long[] numbers) throws ReflectiveOperationException {
        Object[] arguments = new Object[numbers.length];
        for (int i = 0; i < numbers.length; i++) {
            if (call.getParameterTypes()[i] == long.class) {
                arguments[i] = numbers[i];
            } else {
                arguments[i] = (int) numbers[i];
            }
        }
        try {
            return ((Number) call.invoke(x, arguments)).longValue();
        } catch (InvocationTargetException thrown) {
            throw new IllegalStateException(call.getName() + Arrays.toString(numbers), thrown);
        }
    }
}
