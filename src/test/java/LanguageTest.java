import java.io.IOException;
import java.lang.reflect.Field;
import java.lang.reflect.Method;
import java.lang.reflect.Modifier;
import java.nio.file.Files;
import java.nio.file.Path;
import java.util.ArrayList;
import java.util.List;
import java.util.Set;
import java.util.TreeSet;
import java.util.regex.Matcher;
import java.util.regex.Pattern;

/**
 * The rules of LANGUAGE.md by their numbers, as far as they can be seen in the text and in what the
 * compiler made of it. Rule 1 is FaceTest's; rule 7 is looked at by the tests with odd arguments.
 * What a rule allows and the class has no need of (a catch, a while loop) is refused here: so it is
 * added on purpose, with a closer look.
 */
public final class LanguageTest {
    private static final Set<String> EXCEPTIONS = Set.of("IllegalStateException",
            "IllegalArgumentException", "IndexOutOfBoundsException", "ArithmeticException",
            "UnsupportedOperationException", "NoSuchElementException", "RuntimeException");
    private static final Set<String> LIBRARY = Set.of("String", "StringBuilder", "Integer", "Long",
            "Math", "ArrayList", "List", "Iterator", "Iterable", "Comparable", "System", "Arrays",
            "Override");
    private static final Set<String> STATIC_CALLS = Set.of("Math.max", "Math.min", "Math.abs",
            "Math.floorDiv", "Math.floorMod", "Integer.compare", "Integer.max", "Integer.min",
            "Integer.bitCount", "Long.compare", "Long.max", "Long.min", "Long.bitCount",
            "System.arraycopy", "Arrays.copyOf", "Arrays.copyOfRange", "Arrays.fill", "List.of");
    private static final int MOST_CLASSES = 12;
    private static final int MOST_FIELDS = 20;
    private static final int MOST_PARAMETERS = 7;
    private static final int MOST_LINES = 60;

    private static final List<Class<?>> CLASSES = new ArrayList<>();

    private LanguageTest() {
    }

    public static void main(String[] args) throws IOException {
        CLASSES.add(ShortWork.class);
        CLASSES.addAll(List.of(ShortWork.class.getDeclaredClasses()));
        Expect.same("a file to look at is named", args.length, 1);
        if (args.length == 1) {
            String text = Files.readString(Path.of(args[0]));
            String code = text.replaceAll("(?s)/\\*.*?\\*/", "").replaceAll("//[^\n]*", "");
            rule02Classes(code);
            rule03Types();
            rule04Library(text, code);
            rule05StaticFields(code);
            rule06Exceptions(code);
            rule09Loops(code);
            rule10Texts(code);
            rule11Sizes(code);
            rule13Surroundings(code);
        }
        Expect.finish("LanguageTest");
    }

    private static void rule02Classes(String code) {
        none("2", code, "->", "::");
        for (Class<?> own : CLASSES) {
            Expect.same("rule 2: classes deeper inside " + own, own == ShortWork.class
                    || own.getDeclaredClasses().length == 0, true);
        }
    }

    private static void rule03Types() {
        for (Class<?> own : CLASSES) {
            for (Field field : own.getDeclaredFields()) {
                type(field.toString(), field.getType());
            }
            for (Method method : own.getDeclaredMethods()) {
                type(method.toString(), method.getReturnType());
                for (Class<?> parameter : method.getParameterTypes()) {
                    type(method.toString(), parameter);
                }
            }
        }
    }

    private static void type(String what, Class<?> type) {
        Class<?> part = type.isArray() ? type.getComponentType() : type;
        boolean isTable = part.isArray() && part.getComponentType().isPrimitive();
        boolean isNamed = part == String.class || part == StringBuilder.class || part == List.class
                || part == ArrayList.class || part == Integer.class;
        Expect.same("rule 3: " + what, part.isPrimitive() || isTable || CLASSES.contains(part)
                || isNamed && !type.isArray(), true);
    }

    private static void rule04Library(String text, String code) {
        none("4", code, "\\bimport\\b", "\\bjava\\.", "\\bjavax\\.", "Exact\\s*\\(");
        Expect.same("rule 4: signs are 1 to 127",
                text.chars().allMatch(sign -> sign >= 1 && sign <= 127), true);
        Set<String> known = new TreeSet<>(LIBRARY);
        known.addAll(EXCEPTIONS);
        for (Class<?> own : CLASSES) {
            known.add(own.getSimpleName());
        }
        for (String name : all("\\b([A-Z]\\w*[a-z]\\w*)\\b", code)) {
            Expect.same("rule 4: " + name + " is known", known.contains(name), true);
        }
        for (String call : all("\\b((?:Math|Integer|Long|System|Arrays|List)\\.\\w+)", code)) {
            Expect.same("rule 4: " + call + " is known", STATIC_CALLS.contains(call), true);
        }
    }

    private static void rule05StaticFields(String code) {
        none("5", code, "\\bstatic\\s*\\{");
        for (Class<?> own : CLASSES) {
            for (Field field : own.getDeclaredFields()) {
                int modifiers = field.getModifiers();
                Expect.same("rule 5: " + field + " is final",
                        !Modifier.isStatic(modifiers) || Modifier.isFinal(modifiers), true);
            }
        }
    }

    private static void rule06Exceptions(String code) {
        none("6", code, "\\bfinally\\b", "\\bsynchronized\\b", "\\bassert\\b", "\\btry\\s*\\(",
                "\\bextends\\s+\\w*Exception\\b", "\\bthrow\\s+(?!new\\b)", "\\bcatch\\b",
                "\\.\\s*(equals|hashCode|toString|getMessage)\\b");
        Set<String> thrown = all("throw\\s+new\\s+(\\w+)", code);
        Expect.same("rule 6: what is thrown is of the list", EXCEPTIONS.containsAll(thrown), true);
        Expect.same("rule 6: what is thrown is the document's", thrown.toString(),
                "[IllegalArgumentException, IllegalStateException, IndexOutOfBoundsException]");
    }

    /** The class needs no loop but over an array or up to a bound: so each end can be seen. */
    private static void rule09Loops(String code) {
        none("9", code, "\\bwhile\\b", "\\bdo\\b");
        for (String head : all("\\bfor\\s*(\\([^{]*\\))\\s*\\{", code)) {
            boolean isOver = head.matches("\\(\\w+ \\w+ : \\w+\\)");
            boolean isCounted = head.matches("\\(int (\\w+) = [\\w.]+; \\1 <=? [\\w.]+; \\1\\+\\+\\)");
            Expect.same("rule 9: for " + head, isOver || isCounted, true);
        }
    }

    private static void rule10Texts(String code) {
        none("10", code, "\"\\s*\\+", "\\+\\s*\"");
    }

    private static void rule11Sizes(String code) {
        Expect.same("rule 11: not too many classes", CLASSES.size() <= MOST_CLASSES, true);
        for (Class<?> own : CLASSES) {
            int fields = 0;
            for (Field field : own.getDeclaredFields()) {
                fields += Modifier.isStatic(field.getModifiers()) ? 0 : 1;
            }
            Expect.same("rule 11: fields of " + own, fields <= MOST_FIELDS, true);
            for (Method method : own.getDeclaredMethods()) {
                Expect.same("rule 11: parameters of " + method,
                        method.getParameterCount() <= MOST_PARAMETERS, true);
            }
        }
        Matcher body = Pattern.compile("(?m)^( {4}| {8})(\\w[^;{}]*\\)[^;{}]*)\\{\n(?:.*\n)*?\\1\\}")
                .matcher(code);
        int bodies = 0;
        while (body.find()) {
            bodies++;
            long lines = body.group().lines().count();
            Expect.same("rule 11: lines of " + body.group(2), lines <= MOST_LINES, true);
        }
        Expect.same("rule 11: methods were found", bodies >= Face.names().size(), true);
    }

    private static void rule13Surroundings(String code) {
        none("13", code, "\\bSystem\\s*\\.(?!\\s*arraycopy)", "\\bThread\\b", "\\bRandom\\b",
                "\\brandom\\b", "\\bidentityHashCode\\b", "\\bgetenv\\b");
    }

    private static void none(String rule, String code, String... patterns) {
        for (String pattern : patterns) {
            Expect.same("rule " + rule + ": " + pattern + " in the code",
                    Pattern.compile(pattern).matcher(code).find(), false);
        }
    }

    private static Set<String> all(String pattern, String code) {
        Set<String> found = new TreeSet<>();
        Matcher matcher = Pattern.compile(pattern).matcher(code);
        while (matcher.find()) {
            found.add(matcher.group(1));
        }
        return found;
    }
}
