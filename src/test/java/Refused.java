import java.util.function.Supplier;

/**
 * A call that is due to throw: it throws just what is due, and "a call that throws changes
 * nothing": the bureau looks as one that was made alike and was not called so.
 */
final class Refused {
    private Refused() {
    }

    static void outOfBounds(Supplier<ShortWork> start, Call call) {
        refused("IndexOutOfBoundsException", start, call);
    }

    static void badArgument(Supplier<ShortWork> start, Call call) {
        refused("IllegalArgumentException", start, call);
    }

    static void badState(Supplier<ShortWork> start, Call call) {
        refused("IllegalStateException", start, call);
    }

    private static void refused(String due, Supplier<ShortWork> start, Call call) {
        ShortWork x = start.get();
        Expect.same("the refused call", Expect.thrownBy(() -> call.on(x)), due);
        Portrait.expectSame("the refused call", start, () -> afterCall(start, call));
    }

    private static ShortWork afterCall(Supplier<ShortWork> start, Call call) {
        ShortWork x = start.get();
        Expect.thrownBy(() -> call.on(x));
        return x;
    }
}
