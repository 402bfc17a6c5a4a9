import java.io.IOException;
import java.lang.reflect.Constructor;
import java.lang.reflect.Field;
import java.lang.reflect.Method;
import java.lang.reflect.Modifier;
import java.nio.file.Files;
import java.nio.file.Path;
import java.util.ArrayList;
import java.util.List;
import java.util.Set;
import java.util.TreeSet;
import java.util.regex.Matcher;
import java.util.regex.Pattern;

/** The face as the document writes it, and no other member that can be seen from outside. */
public final class FaceTest {
    private static final String OUT = " IndexOutOfBoundsException";
    private static final String ARGUMENT = " IllegalArgumentException";
    private static final String STATE = " IllegalStateException";
    private static final String[] METHODS = {
        "int add(int,boolean)" + ARGUMENT + STATE,
        "int notice(int,int,int,int)" + OUT + ARGUMENT + STATE,
        "int addCourse(int,int,int,int)" + ARGUMENT + STATE,
        "int enrol(int,int)" + OUT + STATE,
        "int setFloor(int)" + ARGUMENT,
        "int workers()",
        "int cut(int,int)" + OUT + ARGUMENT,
        "boolean isFilled(int,int)" + OUT + ARGUMENT,
        "int pass(int)" + ARGUMENT + STATE,
        "int week()",
        "int paid(int,int)" + OUT + ARGUMENT,
        "int madeUp(int,int)" + OUT + ARGUMENT,
        "int cutWeeks(int)" + OUT,
        "void door(int,int,int)" + OUT + ARGUMENT + STATE,
        "void mail(int,int)" + OUT + ARGUMENT + STATE,
        "int check(int)" + ARGUMENT + STATE,
        "int firmOwes()",
        "int owes(int)" + OUT,
        "int net(int)" + OUT};
    private static final String GROUPS = "[ShortWork,"
            + " ---- workers, notices and courses,"
            + " add, notice, addCourse, enrol, setFloor, workers, cut, isFilled,"
            + " ---- weeks, pass, week, paid, madeUp, cutWeeks,"
            + " ---- checks, door, mail, check, firmOwes, owes, net]";

    private FaceTest() {
    }

    public static void main(String[] args) throws IOException {
        publicMembers();
        noOtherOpenMembers();
        Expect.same("a file to look at is named", args.length, 1);
        if (args.length == 1) {
            groups(Files.readString(Path.of(args[0])));
        }
        Expect.finish("FaceTest");
    }

    private static void publicMembers() {
        int modifiers = ShortWork.class.getModifiers();
        Expect.same("public", Modifier.isPublic(modifiers), true);
        Expect.same("final", Modifier.isFinal(modifiers), true);
        Expect.same("no package", ShortWork.class.getPackageName(), "");
        Expect.same("constructors", ShortWork.class.getDeclaredConstructors().length, 1);
        Expect.same("public constructors", ShortWork.class.getConstructors().length, 1);
        Expect.same("public fields", ShortWork.class.getFields().length, 0);
        for (Constructor<?> made : ShortWork.class.getConstructors()) {
            Expect.same("constructor's parameters", made.getParameterCount(), 0);
            Expect.same("constructor's exceptions", made.getExceptionTypes().length, 0);
        }
        Expect.same("public methods", Face.methods().toString(),
                new TreeSet<>(List.of(METHODS)).toString());
    }

    private static void noOtherOpenMembers() {
        Set<String> privateNames = new TreeSet<>();
        for (Method method : ShortWork.class.getDeclaredMethods()) {
            if (!Modifier.isPublic(method.getModifiers())) {
                privateNames.add(method.getName());
                Expect.same(method + " is private", Modifier.isPrivate(method.getModifiers()), true);
            }
        }
        privateNames.retainAll(Face.names());
        Expect.same("private methods with public names", privateNames.size(), 0);
        for (Field field : ShortWork.class.getDeclaredFields()) {
            Expect.same(field + " is private", Modifier.isPrivate(field.getModifiers()), true);
        }
        for (Class<?> inside : ShortWork.class.getDeclaredClasses()) {
            int modifiers = inside.getModifiers();
            Expect.same(inside + " is static", Modifier.isStatic(modifiers), true);
            Expect.same(inside + " is no face",
                    Modifier.isPublic(modifiers) || Modifier.isProtected(modifiers), false);
        }
    }

    /** The calls stand in the document's order, and ahead of them what the interface says there. */
    private static void groups(String text) {
        List<String> found = new ArrayList<>();
        Matcher line = Pattern.compile("public (?:\\w+ )?(\\w+)\\(|// (---- (?!parts).*)").matcher(text);
        while (line.find()) {
            found.add(line.group(1) == null ? line.group(2) : line.group(1));
        }
        Expect.same("calls in their order", found.toString(), GROUPS);
    }
}
