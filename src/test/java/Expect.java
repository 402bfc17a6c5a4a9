/**
 * Counts and prints what is not as due; a test ends with finish(). What README.md's example needs is
 * public: ReadmeTest loads it by a loader of its own.
 */
public final class Expect {
    private static int wrong = 0;
    private static int looked = 0;
    private static String test = "";

    private Expect() {
    }

    /** Names the test that goes on, so that what it prints can be found again. */
    static void begin(String name) {
        test = name + ": ";
    }

    static int looked() {
        return looked;
    }

    static void same(String what, long got, long due) {
        looked++;
        if (got != due) {
            wrong(what + " answered " + got + ", due is " + due);
        }
    }

    static void same(String what, boolean got, boolean due) {
        same(what, got ? 1 : 0, due ? 1 : 0);
    }

    public static void same(String what, String got, String due) {
        looked++;
        if (!got.equals(due)) {
            wrong(what + " answered " + got + ", due is " + due);
        }
    }

    static void outOfBounds(String what, Runnable call) {
        same(what, thrownBy(call), "IndexOutOfBoundsException");
    }

    static void badArgument(String what, Runnable call) {
        same(what, thrownBy(call), "IllegalArgumentException");
    }

    static void badState(String what, Runnable call) {
        same(what, thrownBy(call), "IllegalStateException");
    }

    /** The exact class: a subclass that the machine throws is no answer. */
    public static String thrownBy(Runnable call) {
        try {
            call.run();
            return "nothing";
        } catch (RuntimeException e) {
            return e.getClass().getSimpleName();
        }
    }

    static void wrong(String text) {
        wrong++;
        System.out.println(test + text);
    }

    static void finish(String name) {
        System.out.println(name + ": " + looked + " looks, " + wrong + " wrong");
        if (wrong != 0 || looked == 0) {
            System.exit(1);
        }
    }
}
