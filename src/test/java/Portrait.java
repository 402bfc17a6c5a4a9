import java.util.ArrayList;
import java.util.List;
import java.util.function.Supplier;

/**
 * All that can be seen of a bureau: what the methods that ask answer, and what the next calls
 * would. A call that changes something is made on a bureau of its own, and none takes more than
 * 512 calls.
 */
final class Portrait {
    private static final int QUESTIONS_OF_ONE = 300;

    private final Supplier<ShortWork> start;
    private final List<String> lines = new ArrayList<>();
    private ShortWork asked;
    private int questions = 0;

    private Portrait(Supplier<ShortWork> start) {
        this.start = start;
    }

    /** Tells the first line that differs alone: others follow from it. */
    static void expectSame(String after, Supplier<ShortWork> due, Supplier<ShortWork> got) {
        List<String> dueLines = of(due);
        List<String> gotLines = of(got);
        int all = Math.min(dueLines.size(), gotLines.size());
        int same = 0;
        while (same < all && gotLines.get(same).equals(dueLines.get(same))) {
            same++;
        }
        Expect.same("after " + after, lineAt(gotLines, same), lineAt(dueLines, same));
    }

    private static String lineAt(List<String> lines, int at) {
        return at < lines.size() ? lines.get(at) : "no more";
    }

    private static List<String> of(Supplier<ShortWork> start) {
        Portrait made = new Portrait(start);
        int workers = start.get().workers();
        int week = start.get().week();
        made.askOfAll();
        for (int worker = 0; worker <= workers; worker++) {
            made.askOf(worker);
        }
        made.nextCalls();
        for (int worker = 0; worker < workers; worker++) {
            made.nextCallsOf(worker);
        }
        for (int at = 0; at < Math.min(201, week + 3); at++) {
            made.nextCheckOf(at, workers);
        }
        return made.lines;
    }

    private void askOfAll() {
        ask("workers", ShortWork::workers);
        ask("week", ShortWork::week);
        ask("firmOwes", ShortWork::firmOwes);
    }

    private void askOf(int worker) {
        ask("cutWeeks of " + worker, x -> x.cutWeeks(worker));
        ask("owes of " + worker, x -> x.owes(worker));
        ask("net of " + worker, x -> x.net(worker));
        for (int at = 0; at <= 200; at++) {
            int week = at;
            String of = " of " + worker + " in " + week;
            ask("cut" + of, x -> x.cut(worker, week));
            ask("isFilled" + of, x -> x.isFilled(worker, week) ? 1 : 0);
            ask("paid" + of, x -> x.paid(worker, week));
            ask("madeUp" + of, x -> x.madeUp(worker, week));
        }
    }

    private void nextCalls() {
        next("floor", x -> x.setFloor(0));
        next("next worker", x -> x.add(1, false));
        next("next course", x -> x.addCourse(1, 0, 0, 1));
        next("next week", x -> x.pass(1));
        next("next ten weeks", x -> x.pass(10));
    }

    private void nextCallsOf(int worker) {
        next("next notice of " + worker, x -> x.notice(worker, 200, 200, 1));
        for (int at = 0; at <= 10; at++) {
            int course = at;
            next("course " + course + " of " + worker, x -> x.enrol(worker, course));
        }
    }

    /** What doors and mails are known shows in the check of a week that they were told for. */
    private void nextCheckOf(int week, int workers) {
        next("check of " + week, x -> x.check(week));
        nextDebts("by the check of " + week, workers, x -> x.check(week));
        nextDebts("by doors and the check of " + week, workers, x -> {
            for (int worker = 0; worker < workers; worker++) {
                x.door(worker, week, 80);
            }
            x.check(week);
        });
    }

    private void nextDebts(String what, int workers, Call calls) {
        ShortWork x = start.get();
        for (int i = 0; i < 3 && x.week() < 201; i++) {
            x.pass(1);
        }
        lines.add(what + ": " + Expect.thrownBy(() -> calls.on(x)));
        lines.add("the firm owes " + x.firmOwes() + " " + what);
        for (int worker = 0; worker < workers; worker++) {
            lines.add(worker + " owes " + x.owes(worker) + " " + what);
        }
    }

    private void ask(String what, Question question) {
        if (questions % QUESTIONS_OF_ONE == 0) {
            asked = start.get();
        }
        questions++;
        lines.add(what + ": " + answer(asked, question));
    }

    private void next(String what, Question question) {
        lines.add(what + ": " + answer(start.get(), question));
    }

    private static String answer(ShortWork x, Question question) {
        try {
            return Long.toString(question.of(x));
        } catch (RuntimeException e) {
            return e.getClass().getSimpleName();
        }
    }
}
