import java.util.ArrayList;
import java.util.List;
import java.util.Map;
import java.util.Random;
import java.util.TreeMap;
import java.util.function.IntSupplier;

/**
 * Many runs of calls by chance (with seeds that stay), on ShortWork and on PlainBureau: each call
 * must answer or throw the same, and each kind of answer must have come up. At the end everything
 * is asked, of objects on which the run is made again: none takes more than 512 calls.
 */
public final class ManyRunsTest {
    private static final int RUNS = 400;
    private static final int CALLS = 412;
    private static final int QUESTIONS_OF_ONE = 100;
    private static final String[] METHODS = {
        "add", "notice", "addCourse", "enrol", "setFloor", "workers", "cut", "isFilled", "pass",
        "week", "paid", "madeUp", "cutWeeks", "door", "mail", "check", "firmOwes", "owes", "net"};
    private static final int[] WEIGHTS = {
        2, 12, 3, 6, 2, 1, 3, 3, 6, 1, 3, 4, 2, 12, 5, 8, 2, 3, 3};
    private static final int[] ODD = {
        Integer.MIN_VALUE, Integer.MAX_VALUE, -1, 0, 1, 8, 10, 39, 40, 41, 80, 81, 100, 101, 200, 201};

    private static final Map<String, Integer> seen = new TreeMap<>();

    private final Random random;
    private final List<Question> calls = new ArrayList<>();
    private ShortWork x = new ShortWork();
    private int questions = 0;
    private final PlainBureau plain = new PlainBureau();
    private final String name;

    private ManyRunsTest(int seed) {
        random = new Random(seed);
        name = "run " + seed + ": ";
    }

    public static void main(String[] args) {
        for (int seed = 0; seed < RUNS; seed++) {
            ManyRunsTest run = new ManyRunsTest(seed);
            for (int i = 0; i < CALLS; i++) {
                run.callOne(i < 6 ? "add" : METHODS[run.pick()]);
            }
            run.compareAll();
        }
        for (String method : METHODS) {
            Expect.same(method + " answered at all", seen.containsKey(method + " value"), true);
        }
        eachThrew("IndexOutOfBoundsException", "notice", "enrol", "cut", "isFilled", "paid",
                "madeUp", "cutWeeks", "door", "mail", "owes", "net");
        eachThrew("IllegalArgumentException", "add", "notice", "addCourse", "setFloor", "cut",
                "isFilled", "pass", "paid", "madeUp", "door", "mail", "check");
        eachThrew("IllegalStateException", "add", "notice", "addCourse", "enrol", "pass", "door",
                "mail", "check");
        Expect.finish("ManyRunsTest");
    }

    private static void eachThrew(String exception, String... methods) {
        for (String method : methods) {
            Expect.same(method + " threw " + exception,
                    seen.containsKey(method + " " + exception), true);
        }
    }

    private int pick() {
        int all = 0;
        for (int weight : WEIGHTS) {
            all += weight;
        }
        int left = random.nextInt(all);
        int at = 0;
        while (left >= WEIGHTS[at]) {
            left -= WEIGHTS[at++];
        }
        return at;
    }

    /** Mostly a value of the range, at times one beside it or far off. */
    private int among(int least, int most) {
        int chance = random.nextInt(80);
        if (chance == 0) {
            return ODD[random.nextInt(ODD.length)];
        }
        if (chance == 1) {
            return random.nextBoolean() ? least - 1 : most + 1;
        }
        if (chance < 8) {
            return random.nextBoolean() ? least : most;
        }
        return least + random.nextInt(Math.max(1, most - least + 1));
    }

    private int worker() {
        return among(0, Math.max(0, plain.workers() - 1));
    }

    private int passedWeek() {
        int back = random.nextInt(4) == 0 ? 200 : 6;
        return among(Math.max(0, plain.week() - back), plain.week() - 1);
    }

    private int fewOrMany() {
        return random.nextInt(3) == 0 ? 200 : random.nextInt(20);
    }

    private void callOne(String method) {
        switch (method) {
            case "add" -> callAdd();
            case "notice" -> callNotice();
            case "addCourse" -> callAddCourse();
            case "enrol" -> callEnrol();
            case "setFloor" -> callSetFloor();
            case "pass" -> callPass();
            case "door" -> callDoor();
            case "mail" -> callMail();
            case "check" -> callCheck();
            default -> ask(method, worker(), random.nextBoolean() ? passedWeek() : among(0, 200));
        }
    }

    private void callAdd() {
        int pay = random.nextBoolean() ? among(1, 100000) : among(1, 50);
        boolean children = random.nextBoolean();
        both("add", y -> y.add(pay, children), () -> plain.add(pay, children));
    }

    private void callNotice() {
        int w = worker();
        int from = among(plain.week() + 1, Math.min(200, plain.week() + 12));
        int to = among(from, Math.min(200, from + fewOrMany()));
        int hours = among(0, 40);
        both("notice", y -> y.notice(w, from, to, hours), () -> plain.notice(w, from, to, hours));
    }

    private void callAddCourse() {
        int seats = among(1, 8);
        int from = among(Math.max(0, plain.week() - 10), Math.min(200, plain.week() + 20));
        int to = among(from, Math.min(200, from + fewOrMany()));
        int hours = among(1, 40);
        both("addCourse", y -> y.addCourse(seats, from, to, hours),
                () -> plain.addCourse(seats, from, to, hours));
    }

    private void callEnrol() {
        int w = worker();
        int course = among(0, 9);
        both("enrol", y -> y.enrol(w, course), () -> plain.enrol(w, course));
    }

    private void callSetFloor() {
        int percent = among(0, 100);
        both("setFloor", y -> y.setFloor(percent), () -> plain.setFloor(percent));
    }

    private void callPass() {
        int weeks = random.nextInt(12) == 0 ? among(1, 60) : among(1, 5);
        both("pass", y -> y.pass(weeks), () -> plain.pass(weeks));
    }

    private void callDoor() {
        int w = worker();
        int at = passedWeek();
        boolean isNear = w >= 0 && w < plain.workers() && at >= 0 && at <= 200 && random.nextBoolean();
        int hours = isNear ? 40 - plain.cut(w, at) + 1 + random.nextInt(3) : among(0, 80);
        both("door", y -> done(() -> y.door(w, at, hours)),
                () -> done(() -> plain.door(w, at, hours)));
    }

    private void callMail() {
        int w = worker();
        int at = passedWeek();
        both("mail", y -> done(() -> y.mail(w, at)), () -> done(() -> plain.mail(w, at)));
    }

    private void callCheck() {
        int at = passedWeek();
        both("check", y -> y.check(at), () -> plain.check(at));
    }

    private void ask(String method, int w, int at) {
        switch (method) {
            case "workers" -> both(method, ShortWork::workers, plain::workers);
            case "cut" -> both(method, y -> y.cut(w, at), () -> plain.cut(w, at));
            case "isFilled" -> both(method, y -> bit(y.isFilled(w, at)),
                    () -> bit(plain.isFilled(w, at)));
            case "week" -> both(method, ShortWork::week, plain::week);
            case "paid" -> both(method, y -> y.paid(w, at), () -> plain.paid(w, at));
            case "madeUp" -> both(method, y -> y.madeUp(w, at), () -> plain.madeUp(w, at));
            case "cutWeeks" -> both(method, y -> y.cutWeeks(w), () -> plain.cutWeeks(w));
            case "firmOwes" -> both(method, ShortWork::firmOwes, plain::firmOwes);
            case "owes" -> both(method, y -> y.owes(w), () -> plain.owes(w));
            case "net" -> both(method, y -> y.net(w), () -> plain.net(w));
            default -> throw new IllegalArgumentException(method);
        }
    }

    private void compareAll() {
        for (String method : new String[] {"workers", "week", "firmOwes"}) {
            ask(method, 0, 0);
        }
        for (int w = -1; w <= 8; w++) {
            for (String method : new String[] {"cutWeeks", "owes", "net"}) {
                ask(method, w, 0);
            }
            for (int at = -1; at <= 201; at++) {
                for (String method : new String[] {"cut", "isFilled", "paid", "madeUp"}) {
                    ask(method, w, at);
                }
            }
        }
    }

    private void both(String method, Question call, IntSupplier plainCall) {
        if (calls.size() < CALLS) {
            calls.add(call);
        } else if (questions++ % QUESTIONS_OF_ONE == 0) {
            x = madeAgain();
        }
        String got = answer(() -> (int) call.of(x));
        String due = answer(plainCall);
        seen.merge(method + (due.contains("Exception") ? " " + due : " value"), 1, Integer::sum);
        Expect.same(name + method, got, due);
    }

    private ShortWork madeAgain() {
        ShortWork again = new ShortWork();
        for (Question call : calls) {
            answer(() -> (int) call.of(again));
        }
        return again;
    }

    private static String answer(IntSupplier call) {
        try {
            return Integer.toString(call.getAsInt());
        } catch (RuntimeException e) {
            return e.getClass().getSimpleName();
        }
    }

    private static int done(Runnable call) {
        call.run();
        return 0;
    }

    private static int bit(boolean value) {
        return value ? 1 : 0;
    }
}
