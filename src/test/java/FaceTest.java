import java.io.IOException;
import java.lang.reflect.Constructor;
import java.lang.reflect.Field;
import java.lang.reflect.Method;
import java.lang.reflect.Modifier;
import java.nio.file.Files;
import java.nio.file.Path;
import java.util.ArrayList;
import java.util.List;
import java.util.Set;
import java.util.TreeSet;
import java.util.regex.Matcher;
import java.util.regex.Pattern;

/**
 * The face as the document writes it and nothing besides, and those rules of LANGUAGE.md that can
 * be seen without a reader of Java.
 */
public final class FaceTest {
    private static final String OUT = " IndexOutOfBoundsException";
    private static final String ARGUMENT = " IllegalArgumentException";
    private static final String STATE = " IllegalStateException";
    private static final String[] METHODS = {
        "int add(int,boolean)" + ARGUMENT + STATE,
        "int notice(int,int,int,int)" + OUT + ARGUMENT + STATE,
        "int addCourse(int,int,int,int)" + ARGUMENT + STATE,
        "int enrol(int,int)" + OUT + STATE,
        "int setFloor(int)" + ARGUMENT,
        "int workers()",
        "int cut(int,int)" + OUT + ARGUMENT,
        "boolean isFilled(int,int)" + OUT + ARGUMENT,
        "int pass(int)" + ARGUMENT + STATE,
        "int week()",
        "int paid(int,int)" + OUT + ARGUMENT,
        "int madeUp(int,int)" + OUT + ARGUMENT,
        "int cutWeeks(int)" + OUT,
        "void door(int,int,int)" + OUT + ARGUMENT + STATE,
        "void mail(int,int)" + OUT + ARGUMENT + STATE,
        "int check(int)" + ARGUMENT + STATE,
        "int firmOwes()",
        "int owes(int)" + OUT,
        "int net(int)" + OUT};
    private static final String[] FORBIDDEN = {
        "\\bpackage\\b", "\\bimport\\b", "\\bcatch\\b", "\\bfinally\\b", "\\bsynchronized\\b",
        "\\bassert\\b", "->", "::", "\\bSystem\\s*\\.\\s*(out|err|nano|current)", "\\bThread\\b",
        "Exact\\s*\\(", "\\bstatic\\s*\\{", "\\bprotected\\b"};

    private FaceTest() {
    }

    public static void main(String[] args) throws IOException {
        publicMembers();
        noOtherOpenMembers();
        Expect.same("a file to look at is named", args.length, 1);
        if (args.length == 1) {
            source(Files.readString(Path.of(args[0])));
        }
        Expect.finish("FaceTest");
    }

    private static void publicMembers() {
        int modifiers = ShortWork.class.getModifiers();
        Expect.same("public", Modifier.isPublic(modifiers), true);
        Expect.same("final", Modifier.isFinal(modifiers), true);
        Expect.same("constructors", ShortWork.class.getDeclaredConstructors().length, 1);
        Expect.same("public constructors", ShortWork.class.getConstructors().length, 1);
        Expect.same("public fields", ShortWork.class.getFields().length, 0);
        for (Constructor<?> made : ShortWork.class.getConstructors()) {
            Expect.same("constructor's parameters", made.getParameterCount(), 0);
        }
        Set<String> got = new TreeSet<>();
        for (Method method : ShortWork.class.getDeclaredMethods()) {
            if (Modifier.isPublic(method.getModifiers())) {
                got.add(written(method));
            }
        }
        Expect.same("public methods", got.toString(), new TreeSet<>(List.of(METHODS)).toString());
    }

    private static String written(Method method) {
        List<String> parameters = new ArrayList<>();
        for (Class<?> type : method.getParameterTypes()) {
            parameters.add(type.getSimpleName());
        }
        StringBuilder text = new StringBuilder();
        text.append(Modifier.isStatic(method.getModifiers()) ? "static " : "");
        text.append(method.getReturnType().getSimpleName()).append(' ').append(method.getName());
        text.append('(').append(String.join(",", parameters)).append(')');
        for (Class<?> type : method.getExceptionTypes()) {
            text.append(' ').append(type.getSimpleName());
        }
        return text.toString();
    }

    private static void noOtherOpenMembers() {
        Set<String> publicNames = new TreeSet<>();
        Set<String> privateNames = new TreeSet<>();
        for (Method method : ShortWork.class.getDeclaredMethods()) {
            boolean isPublic = Modifier.isPublic(method.getModifiers());
            (isPublic ? publicNames : privateNames).add(method.getName());
            Expect.same(method + " is public or private",
                    isPublic || Modifier.isPrivate(method.getModifiers()), true);
        }
        privateNames.retainAll(publicNames);
        Expect.same("private methods with public names", privateNames.size(), 0);
        for (Field field : ShortWork.class.getDeclaredFields()) {
            Expect.same(field + " is private", Modifier.isPrivate(field.getModifiers()), true);
            Expect.same(field + " is final if static", !Modifier.isStatic(field.getModifiers())
                    || Modifier.isFinal(field.getModifiers()), true);
        }
        for (Class<?> inner : ShortWork.class.getDeclaredClasses()) {
            int modifiers = inner.getModifiers();
            Expect.same(inner + " is static", Modifier.isStatic(modifiers), true);
            Expect.same(inner + " is no face",
                    Modifier.isPublic(modifiers) || Modifier.isProtected(modifiers), false);
        }
    }

    private static void source(String text) {
        String code = text.replaceAll("(?s)/\\*.*?\\*/", "").replaceAll("//[^\n]*", "");
        for (String rule : FORBIDDEN) {
            Matcher found = Pattern.compile(rule).matcher(code);
            Expect.same(rule + " in the code", found.find(), false);
        }
        Set<String> thrown = new TreeSet<>();
        Matcher exceptions = Pattern.compile("throw\\s+new\\s+(\\w+)").matcher(code);
        while (exceptions.find()) {
            thrown.add(exceptions.group(1));
        }
        Expect.same("exceptions in the code", thrown.toString(),
                "[IllegalArgumentException, IllegalStateException, IndexOutOfBoundsException]");
    }
}
