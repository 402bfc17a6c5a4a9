import java.util.Map;
import java.util.Random;
import java.util.TreeMap;
import java.util.function.IntSupplier;

/**
 * Many runs of 512 calls by chance (with seeds that stay), on ShortWork and on PlainBureau: each
 * call must answer or throw the same, and each kind of answer must have come up.
 */
public final class ManyRunsTest {
    private static final int RUNS = 400;
    private static final int CALLS = 512;
    private static final String[] METHODS = {
        "add", "notice", "addCourse", "enrol", "setFloor", "workers", "cut", "isFilled", "pass",
        "week", "paid", "madeUp", "cutWeeks", "door", "mail", "check", "firmOwes", "owes", "net"};
    private static final int[] WEIGHTS = {
        2, 12, 3, 6, 2, 1, 3, 3, 6, 1, 3, 4, 2, 12, 5, 8, 2, 3, 3};
    private static final int[] ODD = {
        Integer.MIN_VALUE, Integer.MAX_VALUE, -1, 0, 1, 8, 10, 39, 40, 41, 80, 81, 100, 101, 200, 201};

    private static final Map<String, Integer> seen = new TreeMap<>();

    private final Random random;
    private final ShortWork x = new ShortWork();
    private final PlainBureau plain = new PlainBureau();
    private final String name;

    private ManyRunsTest(int seed) {
        random = new Random(seed);
        name = "run " + seed + ": ";
    }

    public static void main(String[] args) {
        for (int seed = 0; seed < RUNS; seed++) {
            ManyRunsTest run = new ManyRunsTest(seed);
            for (int i = 0; i < CALLS; i++) {
                run.callOne(i < 6 ? "add" : METHODS[run.pick()]);
            }
            run.compareAll();
        }
        for (String method : METHODS) {
            Expect.same(method + " answered at all", seen.containsKey(method + " value"), true);
        }
        eachThrew("IndexOutOfBoundsException", "notice", "enrol", "cut", "isFilled", "paid",
                "madeUp", "cutWeeks", "door", "mail", "owes", "net");
        eachThrew("IllegalArgumentException", "add", "notice", "addCourse", "setFloor", "cut",
                "isFilled", "pass", "paid", "madeUp", "door", "mail", "check");
        eachThrew("IllegalStateException", "add", "notice", "addCourse", "enrol", "pass", "door",
                "mail", "check");
        Expect.finish("ManyRunsTest");
    }

    private static void eachThrew(String exception, String... methods) {
        for (String method : methods) {
            Expect.same(method + " threw " + exception,
                    seen.containsKey(method + " " + exception), true);
        }
    }

    private int pick() {
        int all = 0;
        for (int weight : WEIGHTS) {
            all += weight;
        }
        int left = random.nextInt(all);
        int at = 0;
        while (left >= WEIGHTS[at]) {
            left -= WEIGHTS[at++];
        }
        return at;
    }

    /** Mostly a value of the range, at times one beside it or far off. */
    private int among(int least, int most) {
        int chance = random.nextInt(80);
        if (chance == 0) {
            return ODD[random.nextInt(ODD.length)];
        }
        if (chance == 1) {
            return random.nextBoolean() ? least - 1 : most + 1;
        }
        if (chance < 8) {
            return random.nextBoolean() ? least : most;
        }
        return least + random.nextInt(Math.max(1, most - least + 1));
    }

    private int worker() {
        return among(0, Math.max(0, x.workers() - 1));
    }

    private int passedWeek() {
        int back = random.nextInt(4) == 0 ? 200 : 6;
        return among(Math.max(0, x.week() - back), x.week() - 1);
    }

    private int fewOrMany() {
        return random.nextInt(3) == 0 ? 200 : random.nextInt(20);
    }

    private void callOne(String method) {
        switch (method) {
            case "add" -> callAdd();
            case "notice" -> callNotice();
            case "addCourse" -> callAddCourse();
            case "enrol" -> callEnrol();
            case "setFloor" -> callSetFloor();
            case "pass" -> callPass();
            case "door" -> callDoor();
            case "mail" -> callMail();
            case "check" -> callCheck();
            default -> ask(method, worker(), random.nextBoolean() ? passedWeek() : among(0, 200));
        }
    }

    private void callAdd() {
        int pay = random.nextBoolean() ? among(1, 100000) : among(1, 50);
        boolean children = random.nextBoolean();
        both("add", () -> x.add(pay, children), () -> plain.add(pay, children));
    }

    private void callNotice() {
        int w = worker();
        int from = among(x.week() + 1, Math.min(200, x.week() + 12));
        int to = among(from, Math.min(200, from + fewOrMany()));
        int hours = among(0, 40);
        both("notice", () -> x.notice(w, from, to, hours), () -> plain.notice(w, from, to, hours));
    }

    private void callAddCourse() {
        int seats = among(1, 8);
        int from = among(Math.max(0, x.week() - 10), Math.min(200, x.week() + 20));
        int to = among(from, Math.min(200, from + fewOrMany()));
        int hours = among(1, 40);
        both("addCourse", () -> x.addCourse(seats, from, to, hours),
                () -> plain.addCourse(seats, from, to, hours));
    }

    private void callEnrol() {
        int w = worker();
        int course = among(0, 9);
        both("enrol", () -> x.enrol(w, course), () -> plain.enrol(w, course));
    }

    private void callSetFloor() {
        int percent = among(0, 100);
        both("setFloor", () -> x.setFloor(percent), () -> plain.setFloor(percent));
    }

    private void callPass() {
        int weeks = random.nextInt(12) == 0 ? among(1, 60) : among(1, 5);
        both("pass", () -> x.pass(weeks), () -> plain.pass(weeks));
    }

    private void callDoor() {
        int w = worker();
        int at = passedWeek();
        boolean isNear = w >= 0 && w < x.workers() && at >= 0 && at <= 200 && random.nextBoolean();
        int hours = isNear ? 40 - x.cut(w, at) + 1 + random.nextInt(3) : among(0, 80);
        both("door", () -> done(() -> x.door(w, at, hours)),
                () -> done(() -> plain.door(w, at, hours)));
    }

    private void callMail() {
        int w = worker();
        int at = passedWeek();
        both("mail", () -> done(() -> x.mail(w, at)), () -> done(() -> plain.mail(w, at)));
    }

    private void callCheck() {
        int at = passedWeek();
        both("check", () -> x.check(at), () -> plain.check(at));
    }

    private void ask(String method, int w, int at) {
        switch (method) {
            case "workers" -> both(method, x::workers, plain::workers);
            case "cut" -> both(method, () -> x.cut(w, at), () -> plain.cut(w, at));
            case "isFilled" -> both(method, () -> bit(x.isFilled(w, at)),
                    () -> bit(plain.isFilled(w, at)));
            case "week" -> both(method, x::week, plain::week);
            case "paid" -> both(method, () -> x.paid(w, at), () -> plain.paid(w, at));
            case "madeUp" -> both(method, () -> x.madeUp(w, at), () -> plain.madeUp(w, at));
            case "cutWeeks" -> both(method, () -> x.cutWeeks(w), () -> plain.cutWeeks(w));
            case "firmOwes" -> both(method, x::firmOwes, plain::firmOwes);
            case "owes" -> both(method, () -> x.owes(w), () -> plain.owes(w));
            case "net" -> both(method, () -> x.net(w), () -> plain.net(w));
            default -> throw new IllegalArgumentException(method);
        }
    }

    private void compareAll() {
        for (String method : new String[] {"workers", "week", "firmOwes"}) {
            ask(method, 0, 0);
        }
        for (int w = -1; w <= 8; w++) {
            for (String method : new String[] {"cutWeeks", "owes", "net"}) {
                ask(method, w, 0);
            }
            for (int at = -1; at <= 201; at++) {
                for (String method : new String[] {"cut", "isFilled", "paid", "madeUp"}) {
                    ask(method, w, at);
                }
            }
        }
    }

    private void both(String method, IntSupplier call, IntSupplier plainCall) {
        String got = answer(call);
        String due = answer(plainCall);
        seen.merge(method + (due.contains("Exception") ? " " + due : " value"), 1, Integer::sum);
        Expect.same(name + method, got, due);
    }

    private static String answer(IntSupplier call) {
        try {
            return Integer.toString(call.getAsInt());
        } catch (RuntimeException e) {
            return e.getClass().getSimpleName();
        }
    }

    private static int done(Runnable call) {
        call.run();
        return 0;
    }

    private static int bit(boolean value) {
        return value ? 1 : 0;
    }
}
