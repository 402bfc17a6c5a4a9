/** The boundary cases of new objects, workers and notices: promises 1, 2, 3, 7 and 8. */
public final class WorkersBoundaryTest {
    private static final int LOW = Integer.MIN_VALUE;
    private static final int HIGH = Integer.MAX_VALUE;

    private WorkersBoundaryTest() {
    }

    public static void main(String[] args) throws IllegalAccessException {
        Cases.run(WorkersBoundaryTest.class);
    }

    // ---- Promise 1: a new object

    static void promise01NoWorkersAreCounted() {
        Expect.same("workers", Start.empty().workers(), 0);
    }

    static void promise01NoWorkerCanBeAsked() {
        Refused.outOfBounds(Start::empty, x -> x.cut(0, 0));
        Refused.outOfBounds(Start::empty, x -> x.isFilled(0, 0));
        Refused.outOfBounds(Start::empty, x -> x.paid(0, 0));
        Refused.outOfBounds(Start::empty, x -> x.madeUp(0, 0));
        Refused.outOfBounds(Start::empty, x -> x.cutWeeks(0));
        Refused.outOfBounds(Start::empty, x -> x.owes(0));
        Refused.outOfBounds(Start::empty, x -> x.net(0));
    }

    static void promise01NoWorkerCanBeTold() {
        Refused.outOfBounds(Start::empty, x -> x.notice(0, 2, 2, 1));
        Refused.outOfBounds(Start::empty, x -> x.enrol(0, 0));
        Refused.outOfBounds(Start::empty, x -> x.door(0, 0, 0));
        Refused.outOfBounds(Start::empty, x -> x.mail(0, 0));
    }

    static void promise01NoCourses() {
        Refused.outOfBounds(() -> Start.with(1), x -> x.enrol(0, 0));
        Expect.same("the first course", Start.empty().addCourse(1, 0, 0, 1), 0);
    }

    static void promise01Week0GoesOn() {
        Expect.same("week", Start.empty().week(), 0);
    }

    static void promise01NoWeekHasPassed() {
        Refused.badArgument(Start::empty, x -> x.check(0));
        Refused.badArgument(() -> Start.with(1), x -> x.paid(0, 0));
        Refused.badArgument(() -> Start.with(1), x -> x.madeUp(0, 0));
    }

    static void promise01NothingIsOwed() {
        Expect.same("firmOwes", Start.empty().firmOwes(), 0);
    }

    static void promise01ObjectsAreApart() {
        ShortWork one = Start.busy();
        ShortWork other = new ShortWork();
        Expect.same("workers", other.workers(), 0);
        Expect.same("week", other.week(), 0);
        Expect.same("firmOwes", other.firmOwes(), 0);
        Expect.same("floor", other.setFloor(1), 50);
        Expect.same("workers of the first", one.workers(), 3);
        Expect.same("floor of the first", one.setFloor(1), 55);
    }

    static void promise01ANewObjectLeavesTheOthers() {
        Portrait.expectSame("a new object was made", Start::busy, () -> {
            ShortWork x = Start.busy();
            new ShortWork().pass(5);
            return x;
        });
        Portrait.expectSame("another object was used", Start::busy, () -> {
            ShortWork x = Start.busy();
            Start.full().check(5);
            return x;
        });
    }

    static void promise01WeeksPassWithoutWorkers() {
        ShortWork x = Start.empty();
        Expect.same("made up to nobody", x.pass(60), 0);
        Expect.same("week", x.week(), 60);
        Expect.same("owed by nobody", x.check(0), 0);
    }

    /** "An object is used for at most 512 calls": the last of them is answered like the first. */
    static void promise01The512thCallIsAnswered() {
        ShortWork x = Start.with(1);
        for (int calls = 2; calls <= 510; calls++) {
            x.setFloor(0);
        }
        Expect.same("the 511th call", x.notice(0, 2, 2, 40), 1);
        Expect.same("the 512th call", x.pass(3), 600);
    }

    // ---- Promise 2: add

    static void promise02PayFarBelow1() {
        Refused.badArgument(Start::busy, x -> x.add(LOW, false));
        Refused.badArgument(Start::busy, x -> x.add(-1, true));
    }

    static void promise02PayJustBelow1() {
        Refused.badArgument(Start::busy, x -> x.add(0, false));
    }

    static void promise02PayAt1() {
        paysItsFullPay(1);
    }

    static void promise02PayJustAbove1() {
        paysItsFullPay(2);
    }

    static void promise02PayJustBelow100000() {
        paysItsFullPay(99999);
    }

    static void promise02PayAt100000() {
        paysItsFullPay(100000);
    }

    static void promise02PayJustAbove100000() {
        Refused.badArgument(Start::busy, x -> x.add(100001, false));
    }

    static void promise02PayFarAbove100000() {
        Refused.badArgument(Start::busy, x -> x.add(HIGH, true));
    }

    private static void paysItsFullPay(int pay) {
        ShortWork x = Start.empty();
        Expect.same("number", x.add(pay, false), 0);
        x.pass(1);
        Expect.same("full pay", x.paid(0, 0), pay);
    }

    static void promise02NoWorkersYet() {
        Expect.same("number of the first", Start.empty().add(5, false), 0);
    }

    static void promise02OneShortOf8() {
        ShortWork x = Start.with(7);
        Expect.same("number of the eighth", x.add(5, true), 7);
        Expect.same("workers", x.workers(), 8);
        x.pass(1);
        Expect.same("pay of the eighth", x.paid(7, 0), 5);
    }

    static void promise02ANinth() {
        Refused.badState(() -> Start.with(8), x -> x.add(5, false));
        Refused.badState(Start::full, x -> x.add(100000, true));
    }

    static void promise02ANinthWithAPayOutOfRange() {
        Refused.badArgument(Start::full, x -> x.add(0, false));
        Refused.badArgument(Start::full, x -> x.add(100001, false));
    }

    static void promise02AddedInTheLastWeekThatPasses() {
        ShortWork x = Start.empty();
        Start.passTo(x, 200);
        Expect.same("number", x.add(5, false), 0);
        x.pass(1);
        Expect.same("pay of week 200", x.paid(0, 200), 5);
        Expect.same("added when all have passed", x.add(5, false), 1);
        Expect.same("net of who gets no week", x.net(1), 0);
    }

    // ---- Promise 3: notice; in the bureau of busy() the week 10 goes on

    static void promise03WorkerBelow0() {
        Refused.outOfBounds(Start::busy, x -> x.notice(-1, 12, 13, 5));
        Refused.outOfBounds(Start::busy, x -> x.notice(LOW, 12, 13, 5));
    }

    static void promise03WorkerAt0() {
        Expect.same("how many", Start.busy().notice(0, 12, 13, 5), 2);
    }

    static void promise03TheLastWorker() {
        Expect.same("how many", Start.busy().notice(2, 12, 13, 5), 1);
        Expect.same("how many of the eighth", Start.full().notice(7, 12, 13, 5), 1);
    }

    static void promise03WorkerOnePastTheLast() {
        Refused.outOfBounds(Start::busy, x -> x.notice(3, 12, 13, 5));
        Refused.outOfBounds(Start::full, x -> x.notice(8, 12, 13, 5));
        Refused.outOfBounds(Start::busy, x -> x.notice(HIGH, 12, 13, 5));
    }

    static void promise03FromBelow0() {
        Refused.badArgument(Start::busy, x -> x.notice(0, -1, 13, 5));
        Refused.badArgument(Start::busy, x -> x.notice(0, LOW, 13, 5));
    }

    /** 0 and 1 are in range, though never 2 weeks ahead. */
    static void promise03FromAt0AndJustAbove() {
        Refused.badState(() -> Start.with(1), x -> x.notice(0, 0, 13, 5));
        Refused.badState(() -> Start.with(1), x -> x.notice(0, 1, 13, 5));
    }

    static void promise03FromJustBelow200() {
        noticeCuts(199, 200);
    }

    static void promise03FromAt200() {
        noticeCuts(200, 200);
    }

    static void promise03FromJustAbove200() {
        Refused.badArgument(Start::busy, x -> x.notice(0, 201, 201, 5));
        Refused.badArgument(Start::busy, x -> x.notice(0, 201, 200, 5));
        Refused.badArgument(Start::busy, x -> x.notice(0, HIGH, HIGH, 5));
    }

    static void promise03ToJustBelowFrom() {
        Refused.badArgument(Start::busy, x -> x.notice(0, 13, 12, 5));
        Refused.badArgument(Start::busy, x -> x.notice(0, 200, 199, 5));
        Refused.badArgument(Start::busy, x -> x.notice(0, 13, LOW, 5));
    }

    static void promise03ToAtFrom() {
        noticeCuts(50, 50);
    }

    static void promise03ToJustAboveFrom() {
        noticeCuts(50, 51);
    }

    static void promise03ToJustBelow200() {
        noticeCuts(50, 199);
    }

    static void promise03ToAt200() {
        noticeCuts(50, 200);
    }

    static void promise03ToJustAbove200() {
        Refused.badArgument(Start::busy, x -> x.notice(0, 50, 201, 5));
        Refused.badArgument(Start::busy, x -> x.notice(0, 200, 201, 5));
        Refused.badArgument(Start::busy, x -> x.notice(0, 50, HIGH, 5));
    }

    /** "From a week to another one, both included", and in no week beside them. */
    private static void noticeCuts(int from, int to) {
        ShortWork x = Start.with(1);
        Expect.same("how many", x.notice(0, from, to, 5), 1);
        for (int week = 0; week <= 200; week++) {
            Expect.same("cut in " + week, x.cut(0, week), week >= from && week <= to ? 5 : 0);
        }
    }

    static void promise03HoursBelow0() {
        Refused.badArgument(Start::busy, x -> x.notice(0, 12, 13, -1));
        Refused.badArgument(Start::busy, x -> x.notice(0, 12, 13, LOW));
    }

    static void promise03HoursAt0() {
        noticeCutsBy(0);
    }

    static void promise03HoursJustAbove0() {
        noticeCutsBy(1);
    }

    static void promise03HoursJustBelow40() {
        noticeCutsBy(39);
    }

    static void promise03HoursAt40() {
        noticeCutsBy(40);
    }

    static void promise03HoursAbove40() {
        Refused.badArgument(Start::busy, x -> x.notice(0, 12, 13, 41));
        Refused.badArgument(Start::busy, x -> x.notice(0, 12, 13, HIGH));
    }

    private static void noticeCutsBy(int hours) {
        ShortWork x = Start.busy();
        Expect.same("how many", x.notice(0, 12, 13, hours), 2);
        Expect.same("cut", x.cut(0, 12), hours);
    }

    static void promise03FromAWeekThatHasPassed() {
        Refused.badState(Start::busy, x -> x.notice(0, 9, 13, 5));
        Refused.badState(Start::busy, x -> x.notice(0, 0, 0, 5));
    }

    static void promise03FromTheWeekThatGoesOn() {
        Refused.badState(Start::busy, x -> x.notice(0, 10, 13, 5));
        Refused.badState(() -> Start.with(1), x -> x.notice(0, 0, 0, 5));
    }

    static void promise03From1WeekAhead() {
        Refused.badState(Start::busy, x -> x.notice(0, 11, 13, 5));
        Refused.badState(() -> Start.with(1), x -> x.notice(0, 1, 1, 5));
    }

    static void promise03From2WeeksAhead() {
        Expect.same("in week 10", Start.busy().notice(0, 12, 13, 5), 2);
        Expect.same("in week 0", Start.with(1).notice(0, 2, 2, 5), 1);
    }

    static void promise03From3WeeksAhead() {
        Expect.same("in week 10", Start.busy().notice(0, 13, 13, 5), 2);
    }

    static void promise03TheLastWeekFrom198() {
        Expect.same("in week 198", in(198).notice(0, 200, 200, 5), 1);
    }

    static void promise03TheLastWeekFrom199() {
        Refused.badState(() -> in(199), x -> x.notice(0, 200, 200, 5));
    }

    static void promise03TheLastWeekWhenAllHavePassed() {
        Refused.badState(() -> in(201), x -> x.notice(0, 200, 200, 5));
    }

    private static ShortWork in(int week) {
        ShortWork x = Start.with(1);
        Start.passTo(x, week);
        return x;
    }

    static void promise03TheFirstOfAWorker() {
        Expect.same("how many", Start.with(1).notice(0, 2, 2, 5), 1);
    }

    static void promise03OneShortOf30() {
        ShortWork x = noticed(28);
        Expect.same("the 29th", x.notice(0, 50, 50, 5), 29);
        Expect.same("the 30th", x.notice(0, 51, 51, 6), 30);
        Expect.same("cut by the 30th", x.cut(0, 51), 6);
    }

    static void promise03A31st() {
        Refused.badState(() -> noticed(30), x -> x.notice(0, 50, 50, 5));
        Refused.badState(Start::full, x -> x.notice(0, 50, 50, 0));
    }

    static void promise03Notices30OfAnotherWorker() {
        Expect.same("how many", noticed(30).notice(1, 50, 50, 5), 1);
    }

    static void promise03RefusedNoticesAreNotHad() {
        ShortWork x = noticed(29);
        Expect.badState("too late", () -> x.notice(0, 1, 50, 5));
        Expect.badArgument("41 hours", () -> x.notice(0, 50, 50, 41));
        Expect.same("how many", x.notice(0, 50, 50, 5), 30);
    }

    static void promise03NoticesOfPassedWeeksAreHad() {
        ShortWork x = noticed(30);
        Start.passTo(x, 60);
        Expect.badState("a 31st", () -> x.notice(0, 70, 70, 5));
    }

    /** Two workers in week 0, the first of whom has had some notices of 0 hours. */
    private static ShortWork noticed(int count) {
        ShortWork x = Start.with(2);
        for (int i = 0; i < count; i++) {
            x.notice(0, 40, 41, 0);
        }
        return x;
    }

    static void promise03NoWorkerAndAnArgumentOutOfRange() {
        Refused.outOfBounds(Start::busy, x -> x.notice(3, -1, 13, 5));
        Refused.outOfBounds(Start::busy, x -> x.notice(3, 13, 12, 5));
        Refused.outOfBounds(Start::busy, x -> x.notice(3, 12, 13, 41));
        Refused.outOfBounds(Start::busy, x -> x.notice(-1, 12, 201, 5));
    }

    static void promise03NoWorkerAndTooLate() {
        Refused.outOfBounds(Start::busy, x -> x.notice(3, 11, 13, 5));
        Refused.outOfBounds(Start::busy, x -> x.notice(-1, 11, 13, 5));
    }

    static void promise03AnArgumentOutOfRangeAndTooLate() {
        Refused.badArgument(Start::busy, x -> x.notice(0, -1, -1, 5));
        Refused.badArgument(Start::busy, x -> x.notice(0, 11, 10, 5));
        Refused.badArgument(Start::busy, x -> x.notice(0, 11, 201, 5));
        Refused.badArgument(Start::busy, x -> x.notice(0, 11, 13, -1));
        Refused.badArgument(Start::busy, x -> x.notice(0, 11, 13, 41));
    }

    static void promise03AnArgumentOutOfRangeAnd30Had() {
        Refused.badArgument(Start::full, x -> x.notice(0, 201, 201, 5));
        Refused.badArgument(Start::full, x -> x.notice(0, 13, 12, 5));
        Refused.badArgument(Start::full, x -> x.notice(0, 12, 13, 41));
    }

    static void promise03AllAtOnce() {
        Refused.outOfBounds(Start::full, x -> x.notice(8, -1, -2, 41));
        Refused.badArgument(Start::full, x -> x.notice(0, 11, 13, 41));
    }

    static void promise03NoNoticeForAWeek() {
        Expect.same("cut", Start.with(1).cut(0, 2), 0);
    }

    static void promise03TheLastNoticeCountsInEachWeek() {
        ShortWork x = Start.with(1);
        x.notice(0, 5, 15, 10);
        x.notice(0, 8, 10, 30);
        x.notice(0, 10, 12, 0);
        int[] due = {0, 10, 10, 10, 30, 30, 0, 0, 0, 10, 10, 10, 0};
        for (int i = 0; i < due.length; i++) {
            Expect.same("cut in " + (i + 4), x.cut(0, i + 4), due[i]);
        }
    }

    static void promise03ANoticeLeavesOtherWorkers() {
        ShortWork x = Start.with(3);
        x.notice(1, 2, 200, 9);
        Expect.same("the worker ahead", x.cut(0, 2), 0);
        Expect.same("the worker behind", x.cut(2, 2), 0);
    }

    // ---- Promise 7: workers

    static void promise07NoneToEight() {
        ShortWork x = Start.empty();
        for (int count = 0; count < 8; count++) {
            Expect.same("workers", x.workers(), count);
            x.add(1, false);
        }
        Expect.same("all workers", x.workers(), 8);
    }

    static void promise07RefusedWorkersAreNotCounted() {
        ShortWork x = Start.with(7);
        Expect.badArgument("pay 0", () -> x.add(0, false));
        Expect.same("workers", x.workers(), 7);
        x.add(1, false);
        Expect.badState("a ninth", () -> x.add(1, false));
        Expect.same("all workers", x.workers(), 8);
    }

    static void promise07PassedWeeksLeaveThem() {
        Expect.same("workers", Start.ended().workers(), 3);
    }

    // ---- Promise 8: cut

    static void promise08WorkerBelow0() {
        Refused.outOfBounds(Start::busy, x -> x.cut(-1, 5));
        Refused.outOfBounds(Start::busy, x -> x.cut(LOW, 5));
    }

    static void promise08WorkerAt0() {
        Expect.same("cut", Start.busy().cut(0, 5), 20);
    }

    static void promise08TheLastWorker() {
        Expect.same("cut", Start.busy().cut(2, 5), 0);
        Expect.same("cut of the eighth", Start.full().cut(7, 5), 0);
    }

    static void promise08WorkerOnePastTheLast() {
        Refused.outOfBounds(Start::busy, x -> x.cut(3, 5));
        Refused.outOfBounds(Start::full, x -> x.cut(8, 5));
        Refused.outOfBounds(Start::busy, x -> x.cut(HIGH, 5));
    }

    static void promise08WeekBelow0() {
        Refused.badArgument(Start::busy, x -> x.cut(0, -1));
        Refused.badArgument(Start::busy, x -> x.cut(0, LOW));
    }

    static void promise08WeekAt0AndJustAbove() {
        Expect.same("cut in 0", Start.busy().cut(0, 0), 0);
        Expect.same("cut in 1", Start.busy().cut(0, 1), 0);
    }

    static void promise08WeekJustBelow200AndAt200() {
        Expect.same("cut in 199", Start.cutBy(7).cut(0, 199), 7);
        Expect.same("cut in 200", Start.cutBy(7).cut(0, 200), 7);
    }

    static void promise08WeekAbove200() {
        Refused.badArgument(Start::busy, x -> x.cut(0, 201));
        Refused.badArgument(Start::ended, x -> x.cut(0, 201));
        Refused.badArgument(Start::busy, x -> x.cut(0, HIGH));
    }

    static void promise08NoWorkerAndWeekOutOfRange() {
        Refused.outOfBounds(Start::busy, x -> x.cut(3, -1));
        Refused.outOfBounds(Start::busy, x -> x.cut(-1, 201));
    }

    static void promise08WeeksAroundTheOneThatGoesOn() {
        ShortWork x = Start.busy();
        Expect.same("the week behind", x.cut(0, 9), 20);
        Expect.same("the week that goes on", x.cut(0, 10), 20);
        Expect.same("the week ahead", x.cut(0, 11), 20);
        Expect.same("the first week of its notice", x.cut(0, 2), 20);
        Expect.same("the last week of its notice", x.cut(0, 30), 20);
        Expect.same("the week behind its notice", x.cut(0, 31), 0);
    }

    static void promise08WhenAllHavePassed() {
        ShortWork x = Start.ended();
        Expect.same("a week with a notice", x.cut(0, 30), 20);
        Expect.same("the last week", x.cut(0, 200), 0);
    }

    static void promise08ByNoticesAsTheyAreNow() {
        ShortWork x = Start.busy();
        x.notice(0, 12, 12, 3);
        Expect.same("told anew", x.cut(0, 12), 3);
        Expect.same("as before", x.cut(0, 11), 20);
        x.notice(0, 12, 12, 0);
        Expect.same("taken back", x.cut(0, 12), 0);
    }
}
