import java.io.IOException;
import java.lang.reflect.Constructor;
import java.lang.reflect.Field;
import java.lang.reflect.Member;
import java.lang.reflect.Method;
import java.lang.reflect.Modifier;
import java.nio.charset.StandardCharsets;
import java.nio.file.Files;
import java.nio.file.Path;
import java.util.ArrayList;
import java.util.Arrays;
import java.util.List;
import java.util.Set;
import java.util.TreeSet;
import java.util.regex.Matcher;
import java.util.regex.Pattern;

/** The public face, and those rules of LANGUAGE.md that can be seen from the class or its text. */
public final class FaceTest {
    private static final Checks CHECKS = new Checks("FaceTest");
    private static final List<String> FACE = List.of(
        "int type(long, int)", "int clear()", "int program()", "int item(int, int)", "int modulus(int)",
        "int input(int, int, int)", "int lot(int, int)", "int lie(int, int, int)", "int honest()", "int end()",
        "int share(int, int)", "int seen(int, int)", "int spy(int, int)", "int tells(int, int)", "int trade(int, int)",
        "int least(int, int)", "int field(int, int)", "int curve(int, int, int)", "int point(int)", "int bend(int, int)",
        "int open(int, int)", "int product(int, int)", "int month(int)", "int steal(int)", "int known(int)",
        "int weight(int, int)", "int count(int)", "long trace()");

    public static void main(String[] args) throws IOException {
        face();
        classes();
        text(Files.readString(Path.of("src/main/java/DustSums.java"), StandardCharsets.ISO_8859_1));
        CHECKS.close();
    }

    private static void holds(String rule, boolean held) {
        CHECKS.due(rule, held ? 1 : 0, 1);
    }

    private static void face() {
        int modifiers = DustSums.class.getModifiers();
        holds("public and final", Modifier.isPublic(modifiers) && Modifier.isFinal(modifiers));
        Set<String> open = new TreeSet<>();
        for (Method method : DustSums.class.getDeclaredMethods()) {
            if (isHidden(method)) continue;
            open.add(method.getReturnType() + " " + method.getName() + parameters(method));
            holds(method + " is public, not static", method.getModifiers() == Modifier.PUBLIC);
        }
        CHECKS.due("28 methods " + open, open.equals(new TreeSet<>(FACE)) ? 28 : open.size(), 28);
        Constructor<?>[] constructors = DustSums.class.getDeclaredConstructors();
        holds("one constructor", constructors.length == 1 && constructors[0].toString().equals("public DustSums()"));
        Set<String> constants = new TreeSet<>();
        for (Field field : DustSums.class.getDeclaredFields()) {
            if (!isHidden(field)) constants.add(field.toString());
        }
        holds("four constants " + constants, constants.equals(new TreeSet<>(List.of(
            "public static final int DustSums.BAD", "public static final int DustSums.STATE",
            "public static final int DustSums.FULL", "public static final int DustSums.NONE"))));
        CHECKS.due("BAD", DustSums.BAD, -1);
        CHECKS.due("STATE", DustSums.STATE, -2);
        CHECKS.due("FULL", DustSums.FULL, -3);
        CHECKS.due("NONE", DustSums.NONE, -9);
    }

    private static boolean isHidden(Member member) {
        return Modifier.isPrivate(member.getModifiers()) || member.isSynthetic();
    }

    private static String parameters(Method method) {
        List<String> names = new ArrayList<>();
        for (Class<?> type : method.getParameterTypes()) names.add(type.toString());
        return "(" + String.join(", ", names) + ")";
    }

    private static void classes() {
        List<Class<?>> all = new ArrayList<>(List.of(DustSums.class.getDeclaredClasses()));
        for (Class<?> inside : all) holds(inside + " is static", Modifier.isStatic(inside.getModifiers()));
        all.add(DustSums.class);
        holds("twelve classes at most", all.size() <= 12);
        Set<String> faceNames = new TreeSet<>();
        for (String line : FACE) faceNames.add(line.substring(line.indexOf(' ') + 1, line.indexOf('(')));
        for (Class<?> one : all) {
            long own = Arrays.stream(one.getDeclaredFields()).filter(f -> !Modifier.isStatic(f.getModifiers())).count();
            holds("rule 11: twenty fields at most in " + one, own <= 20);
            for (Field field : one.getDeclaredFields()) {
                int modifiers = field.getModifiers();
                if (Modifier.isStatic(modifiers)) holds("rule 5: " + field + " is final", Modifier.isFinal(modifiers));
            }
            for (Method method : one.getDeclaredMethods()) {
                holds("rule 11: seven parameters at most of " + method, method.getParameterCount() <= 7);
                boolean ofTheFace = one == DustSums.class && !isHidden(method);
                holds("rule 1: the name of " + method, ofTheFace || !faceNames.contains(method.getName()));
            }
        }
    }

    private static void text(String source) {
        holds("signs are plain", source.chars().allMatch(c -> c == '\n' || c >= 32 && c < 127));
        String code = source.replaceAll("(?s)/\\*.*?\\*/", "").replaceAll("//[^\n]*", "");
        for (String word : new String[] {"throw", "throws", "try", "catch", "finally", "synchronized", "assert", "package",
                "volatile", "transient", "native", "protected", "var", "System", "Object", "Exception", "Random", "Thread"}) {
            holds("no " + word, !Pattern.compile("\\b" + word + "\\b").matcher(code).find());
        }
        for (String sign : new String[] {"->", "::", "@", "\"", "static {"}) holds("no " + sign, !code.contains(sign));
        Matcher imports = Pattern.compile("import ([^;]+);").matcher(code);
        while (imports.find()) CHECKS.due("import " + imports.group(1), imports.group(1).equals("java.util.Arrays") ? 1 : 0, 1);
        Matcher remainders = Pattern.compile("[^/]/[^/]|%").matcher(code);
        int divisions = 0;
        while (remainders.find()) divisions++;
        CHECKS.due("one division in all, behind its test", divisions, 1);
        for (String line : code.split("\n")) {
            boolean makes = Pattern.compile("\\bnew\\b|\\bclone\\b|copyOf|= \\{").matcher(line).find();
            if (makes) holds("rule 12: made with the object:" + line, line.matches(" {4,8}private final .* = .*;"));
        }
        methodLengths(code);
    }

    private static void methodLengths(String code) {
        String[] lines = code.split("\n");
        for (int i = 0; i < lines.length; i++) {
            if (!lines[i].matches(" {4,8}[a-z].*\\) \\{")) continue;
            String indent = lines[i].replaceAll("\\S.*", "");
            int end = i;
            while (end < lines.length && !lines[end].equals(indent + "}")) end++;
            holds("rule 11: sixty lines at most:" + lines[i], end - i < 60);
        }
    }
}
