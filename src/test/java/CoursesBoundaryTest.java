/** The boundary cases of courses: promises 4, 5 and 9. */
public final class CoursesBoundaryTest {
    private static final int LOW = Integer.MIN_VALUE;
    private static final int HIGH = Integer.MAX_VALUE;

    private CoursesBoundaryTest() {
    }

    public static void main(String[] args) throws IllegalAccessException {
        Cases.run(CoursesBoundaryTest.class);
    }

    // ---- Promise 4: addCourse

    static void promise04SeatsBelow1() {
        Refused.badArgument(Start::busy, x -> x.addCourse(0, 20, 21, 5));
        Refused.badArgument(Start::busy, x -> x.addCourse(-1, 20, 21, 5));
        Refused.badArgument(Start::busy, x -> x.addCourse(LOW, 20, 21, 5));
    }

    static void promise04SeatsAt1() {
        hasSeats(1);
    }

    static void promise04SeatsJustAbove1() {
        hasSeats(2);
    }

    static void promise04SeatsJustBelow8() {
        hasSeats(7);
    }

    static void promise04SeatsAt8() {
        hasSeats(8);
    }

    static void promise04SeatsAbove8() {
        Refused.badArgument(Start::busy, x -> x.addCourse(9, 20, 21, 5));
        Refused.badArgument(Start::busy, x -> x.addCourse(HIGH, 20, 21, 5));
    }

    private static void hasSeats(int seats) {
        ShortWork x = Start.with(8);
        Expect.same("number", x.addCourse(seats, 20, 21, 5), 0);
        for (int worker = 0; worker < seats; worker++) {
            Expect.same("seats left", x.enrol(worker, 0), seats - 1 - worker);
        }
        for (int at = seats; at < 8; at++) {
            int worker = at;
            Expect.badState("no seat for " + worker, () -> x.enrol(worker, 0));
        }
    }

    static void promise04FromBelow0() {
        Refused.badArgument(Start::busy, x -> x.addCourse(2, -1, 21, 5));
        Refused.badArgument(Start::busy, x -> x.addCourse(2, LOW, 21, 5));
    }

    static void promise04FromAt0() {
        fillsFrom(0, 21);
    }

    static void promise04FromJustAbove0() {
        fillsFrom(1, 21);
    }

    static void promise04FromJustBelow200() {
        fillsFrom(199, 200);
    }

    static void promise04FromAt200() {
        fillsFrom(200, 200);
    }

    static void promise04FromAbove200() {
        Refused.badArgument(Start::busy, x -> x.addCourse(2, 201, 201, 5));
        Refused.badArgument(Start::busy, x -> x.addCourse(2, 201, 200, 5));
        Refused.badArgument(Start::busy, x -> x.addCourse(2, HIGH, HIGH, 5));
    }

    static void promise04ToBelowFrom() {
        Refused.badArgument(Start::busy, x -> x.addCourse(2, 20, 19, 5));
        Refused.badArgument(Start::busy, x -> x.addCourse(2, 0, -1, 5));
        Refused.badArgument(Start::busy, x -> x.addCourse(2, 20, LOW, 5));
    }

    static void promise04ToAtFrom() {
        fillsFrom(20, 20);
        fillsFrom(0, 0);
    }

    static void promise04ToJustAboveFrom() {
        fillsFrom(20, 21);
    }

    static void promise04ToJustBelow200() {
        fillsFrom(0, 199);
    }

    static void promise04ToAt200() {
        fillsFrom(0, 200);
    }

    static void promise04ToAbove200() {
        Refused.badArgument(Start::busy, x -> x.addCourse(2, 20, 201, 5));
        Refused.badArgument(Start::busy, x -> x.addCourse(2, 200, 201, 5));
        Refused.badArgument(Start::busy, x -> x.addCourse(2, 20, HIGH, 5));
    }

    /** "From a week to another one, both included", and in no week beside them. */
    private static void fillsFrom(int from, int to) {
        ShortWork x = Start.with(1);
        Expect.same("number", x.addCourse(2, from, to, 5), 0);
        x.enrol(0, 0);
        for (int week = 0; week <= 200; week++) {
            Expect.same("filled in " + week, x.isFilled(0, week), week >= from && week <= to);
        }
    }

    static void promise04HoursBelow1() {
        Refused.badArgument(Start::busy, x -> x.addCourse(2, 20, 21, 0));
        Refused.badArgument(Start::busy, x -> x.addCourse(2, 20, 21, -1));
        Refused.badArgument(Start::busy, x -> x.addCourse(2, 20, 21, LOW));
    }

    static void promise04HoursAt1() {
        fillsUpTo(1, 2);
    }

    static void promise04HoursJustAbove1() {
        fillsUpTo(2, 4);
    }

    static void promise04HoursJustBelow40() {
        fillsUpTo(39, 40);
    }

    static void promise04HoursAt40() {
        fillsUpTo(40, 40);
    }

    static void promise04HoursAbove40() {
        Refused.badArgument(Start::busy, x -> x.addCourse(2, 20, 21, 41));
        Refused.badArgument(Start::busy, x -> x.addCourse(2, 20, 21, HIGH));
    }

    private static void fillsUpTo(int hours, int most) {
        Expect.same("filled at " + most, inCourse(hours, most).isFilled(0, 5), true);
        if (most < 40) {
            Expect.same("filled above", inCourse(hours, most + 1).isFilled(0, 5), false);
        }
    }

    /** A worker who is cut in week 5 and in a course of the weeks 5 to 6. */
    private static ShortWork inCourse(int hours, int cut) {
        ShortWork x = Start.with(1);
        x.notice(0, 5, 5, cut);
        Expect.same("number", x.addCourse(1, 5, 6, hours), 0);
        x.enrol(0, 0);
        return x;
    }

    static void promise04NoCoursesYet() {
        Expect.same("number of the first", Start.with(1).addCourse(1, 0, 0, 1), 0);
    }

    static void promise04OneShortOf10() {
        ShortWork x = courses(9);
        Expect.same("number of the tenth", x.addCourse(3, 20, 21, 5), 9);
        Expect.same("seats left in the tenth", x.enrol(0, 9), 2);
    }

    static void promise04An11th() {
        Refused.badState(() -> courses(10), x -> x.addCourse(2, 20, 21, 5));
        Refused.badState(Start::full, x -> x.addCourse(8, 0, 200, 40));
    }

    static void promise04An11thWithAnArgumentOutOfRange() {
        Refused.badArgument(Start::full, x -> x.addCourse(0, 20, 21, 5));
        Refused.badArgument(Start::full, x -> x.addCourse(9, 20, 21, 5));
        Refused.badArgument(Start::full, x -> x.addCourse(2, -1, 21, 5));
        Refused.badArgument(Start::full, x -> x.addCourse(2, 20, 19, 5));
        Refused.badArgument(Start::full, x -> x.addCourse(2, 20, 201, 5));
        Refused.badArgument(Start::full, x -> x.addCourse(2, 20, 21, 0));
        Refused.badArgument(Start::full, x -> x.addCourse(2, 20, 21, 41));
    }

    static void promise04RefusedCoursesTakeNoNumber() {
        ShortWork x = courses(9);
        Expect.badArgument("0 seats", () -> x.addCourse(0, 20, 21, 5));
        Expect.same("number of the tenth", x.addCourse(2, 20, 21, 5), 9);
    }

    /** Nothing asks a course to be ahead: one of weeks that have passed can be added. */
    static void promise04OfWeeksThatHavePassed() {
        Expect.same("in week 10", Start.busy().addCourse(2, 0, 9, 5), 4);
        Expect.same("when all have passed", Start.ended().addCourse(2, 200, 200, 5), 4);
    }

    private static ShortWork courses(int count) {
        ShortWork x = Start.with(2);
        for (int i = 0; i < count; i++) {
            x.addCourse(2, 2 * i, 2 * i, 5);
        }
        return x;
    }

    // ---- Promise 5: enrol; in the bureau of busy() the week 10 goes on

    static void promise05WorkerBelow0() {
        Refused.outOfBounds(Start::busy, x -> x.enrol(-1, 2));
        Refused.outOfBounds(Start::busy, x -> x.enrol(LOW, 2));
    }

    static void promise05WorkerAt0() {
        Expect.same("seats left", Start.busy().enrol(0, 2), 7);
    }

    static void promise05TheLastWorker() {
        Expect.same("seats left", Start.busy().enrol(2, 2), 7);
        Expect.same("seats left for the eighth", Start.full().enrol(7, 2), 7);
    }

    static void promise05WorkerOnePastTheLast() {
        Refused.outOfBounds(Start::busy, x -> x.enrol(3, 2));
        Refused.outOfBounds(Start::full, x -> x.enrol(8, 2));
        Refused.outOfBounds(Start::busy, x -> x.enrol(HIGH, 2));
    }

    static void promise05NoWorkers() {
        Refused.outOfBounds(() -> {
            ShortWork x = Start.empty();
            x.addCourse(1, 0, 0, 1);
            return x;
        }, x -> x.enrol(0, 0));
    }

    static void promise05CourseBelow0() {
        Refused.outOfBounds(Start::busy, x -> x.enrol(0, -1));
        Refused.outOfBounds(Start::busy, x -> x.enrol(0, LOW));
    }

    static void promise05CourseAt0() {
        Expect.same("seats left", courses(1).enrol(0, 0), 1);
    }

    static void promise05TheLastCourse() {
        Expect.same("seats left of the only one", courses(1).enrol(1, 0), 1);
        Expect.same("seats left of the tenth", Start.full().enrol(0, 9), 0);
    }

    static void promise05CourseOnePastTheLast() {
        Refused.outOfBounds(Start::busy, x -> x.enrol(0, 4));
        Refused.outOfBounds(Start::full, x -> x.enrol(0, 10));
        Refused.outOfBounds(Start::busy, x -> x.enrol(0, HIGH));
    }

    static void promise05NoCourses() {
        Refused.outOfBounds(() -> Start.with(8), x -> x.enrol(0, 0));
    }

    static void promise05AllSeatsAreFree() {
        Expect.same("seats left", seats(8, 0).enrol(7, 0), 7);
    }

    static void promise05OneSeatIsLeft() {
        Expect.same("seats left of 1", seats(1, 0).enrol(7, 0), 0);
        Expect.same("seats left of 3", seats(3, 2).enrol(7, 0), 0);
        Expect.same("seats left of 8", seats(8, 7).enrol(7, 0), 0);
    }

    static void promise05NoSeatIsLeft() {
        Refused.badState(() -> seats(1, 1), x -> x.enrol(7, 0));
        Refused.badState(() -> seats(7, 7), x -> x.enrol(7, 0));
    }

    static void promise05TheLastSeatIsOfWhoTookIt() {
        ShortWork x = seats(3, 3);
        Expect.same("the third", x.isFilled(2, 20), true);
        Expect.same("the fourth", x.isFilled(3, 20), false);
    }

    /** Eight workers and a course of the weeks 20 and 21 with some seats taken. */
    private static ShortWork seats(int seats, int taken) {
        ShortWork x = Start.with(8);
        x.addCourse(seats, 20, 21, 5);
        for (int worker = 0; worker < taken; worker++) {
            x.enrol(worker, 0);
        }
        return x;
    }

    static void promise05TheWorkerIsInIt() {
        Refused.badState(() -> seats(8, 1), x -> x.enrol(0, 0));
    }

    static void promise05AnotherWorkerIsInIt() {
        Expect.same("seats left", seats(8, 1).enrol(1, 0), 6);
    }

    /** The worker is in a course of the weeks 20 to 24 of the least hours; another is wanted. */
    private static ShortWork wanted(int from, int to) {
        ShortWork x = Start.with(2);
        x.addCourse(8, 20, 24, 1);
        x.addCourse(8, from, to, 5);
        x.enrol(0, 0);
        return x;
    }

    static void promise05CommonFirstWeek() {
        Refused.badState(() -> wanted(20, 20), x -> x.enrol(0, 1));
        Refused.badState(() -> wanted(10, 20), x -> x.enrol(0, 1));
    }

    static void promise05CommonLastWeek() {
        Refused.badState(() -> wanted(24, 24), x -> x.enrol(0, 1));
        Refused.badState(() -> wanted(24, 200), x -> x.enrol(0, 1));
    }

    static void promise05CommonWeeksWithin() {
        Refused.badState(() -> wanted(21, 23), x -> x.enrol(0, 1));
        Refused.badState(() -> wanted(22, 22), x -> x.enrol(0, 1));
    }

    static void promise05CommonWeeksAround() {
        Refused.badState(() -> wanted(19, 25), x -> x.enrol(0, 1));
        Refused.badState(() -> wanted(0, 200), x -> x.enrol(0, 1));
    }

    static void promise05CommonWeeksAllTheSame() {
        Refused.badState(() -> wanted(20, 24), x -> x.enrol(0, 1));
    }

    static void promise05TheWeekJustAhead() {
        ShortWork x = wanted(19, 19);
        Expect.same("seats left", x.enrol(0, 1), 7);
        Expect.same("in the one", x.isFilled(0, 20), true);
        Expect.same("in the other", x.isFilled(0, 19), true);
    }

    static void promise05TheWeekJustBehind() {
        ShortWork x = wanted(25, 200);
        Expect.same("seats left", x.enrol(0, 1), 7);
        Expect.same("in the one", x.isFilled(0, 24), true);
        Expect.same("in the other", x.isFilled(0, 25), true);
    }

    static void promise05CommonWeeksOfAnotherWorker() {
        Expect.same("seats left", wanted(20, 24).enrol(1, 1), 7);
    }

    /** The weeks in common have passed, the course that is wanted goes on. */
    static void promise05CommonWeeksThatHavePassed() {
        Refused.badState(() -> later(24, 40), x -> x.enrol(0, 1));
        Expect.same("none in common", later(25, 40).enrol(0, 1), 7);
    }

    private static ShortWork later(int from, int to) {
        ShortWork x = wanted(from, to);
        x.pass(30);
        return x;
    }

    /** A refused worker is not in the course: its weeks are free for another one. */
    static void promise05ARefusedCourseTakesNoWeeks() {
        ShortWork x = wanted(24, 30);
        x.addCourse(8, 25, 30, 1);
        Expect.badState("week 24 in common", () -> x.enrol(0, 1));
        Expect.same("seats left", x.enrol(0, 2), 7);
    }

    static void promise05ItsLastWeekHasPassed() {
        Refused.badState(() -> courseTo(9), x -> x.enrol(2, 4));
        Refused.badState(() -> courseTo(0), x -> x.enrol(2, 4));
    }

    static void promise05ItsLastWeekGoesOn() {
        Expect.same("seats left", courseTo(10).enrol(2, 4), 2);
    }

    static void promise05ItsLastWeekComes() {
        Expect.same("seats left", courseTo(11).enrol(2, 4), 2);
    }

    static void promise05Week200GoesOn() {
        ShortWork x = courseTo(200);
        Start.passTo(x, 200);
        Expect.same("seats left", x.enrol(2, 4), 2);
    }

    static void promise05Week200HasPassed() {
        Refused.badState(Start::ended, x -> x.enrol(2, 2));
    }

    /** The bureau of busy(), in week 10, with a course 4 up to a week. */
    private static ShortWork courseTo(int to) {
        ShortWork x = Start.busy();
        Expect.same("number", x.addCourse(3, 0, to, 5), 4);
        return x;
    }

    static void promise05NoWorkerAndNoSeat() {
        Refused.outOfBounds(() -> seats(7, 7), x -> x.enrol(8, 0));
        Refused.outOfBounds(() -> seats(7, 7), x -> x.enrol(-1, 0));
    }

    static void promise05NoWorkerAndItsLastWeekHasPassed() {
        Refused.outOfBounds(Start::busy, x -> x.enrol(3, 3));
    }

    static void promise05NoCourseAndTheWorkerInAllOthers() {
        Refused.outOfBounds(() -> seats(1, 1), x -> x.enrol(0, 1));
        Refused.outOfBounds(Start::ended, x -> x.enrol(0, 4));
    }

    static void promise05NeitherWorkerNorCourse() {
        Refused.outOfBounds(Start::busy, x -> x.enrol(3, 4));
    }

    static void promise05AllThatRefuseAtOnce() {
        Refused.badState(() -> {
            ShortWork x = seats(1, 1);
            x.pass(22);
            return x;
        }, x -> x.enrol(0, 0));
    }

    // ---- Promise 9: isFilled

    static void promise09WorkerBelow0() {
        Refused.outOfBounds(Start::busy, x -> x.isFilled(-1, 5));
        Refused.outOfBounds(Start::busy, x -> x.isFilled(LOW, 5));
    }

    static void promise09WorkerAt0() {
        Expect.same("filled", Start.busy().isFilled(0, 5), true);
    }

    static void promise09TheLastWorker() {
        Expect.same("filled", Start.busy().isFilled(2, 5), false);
        Expect.same("the eighth", Start.full().isFilled(7, 5), false);
    }

    static void promise09WorkerOnePastTheLast() {
        Refused.outOfBounds(Start::busy, x -> x.isFilled(3, 5));
        Refused.outOfBounds(Start::full, x -> x.isFilled(8, 5));
        Refused.outOfBounds(Start::busy, x -> x.isFilled(HIGH, 5));
    }

    static void promise09WeekBelow0() {
        Refused.badArgument(Start::busy, x -> x.isFilled(0, -1));
        Refused.badArgument(Start::busy, x -> x.isFilled(0, LOW));
    }

    static void promise09WeekAt0AndJustAbove() {
        ShortWork x = inWeeks(0, 0);
        Expect.same("filled in 0", x.isFilled(0, 0), true);
        Expect.same("filled in 1", x.isFilled(0, 1), false);
    }

    static void promise09WeekJustBelow200AndAt200() {
        ShortWork x = inWeeks(200, 200);
        Expect.same("filled in 199", x.isFilled(0, 199), false);
        Expect.same("filled in 200", x.isFilled(0, 200), true);
    }

    static void promise09WeekAbove200() {
        Refused.badArgument(Start::busy, x -> x.isFilled(0, 201));
        Refused.badArgument(Start::ended, x -> x.isFilled(0, 201));
        Refused.badArgument(Start::busy, x -> x.isFilled(0, HIGH));
    }

    static void promise09NoWorkerAndWeekOutOfRange() {
        Refused.outOfBounds(Start::busy, x -> x.isFilled(3, -1));
        Refused.outOfBounds(Start::busy, x -> x.isFilled(-1, 201));
    }

    private static ShortWork inWeeks(int from, int to) {
        ShortWork x = Start.with(1);
        x.addCourse(1, from, to, 5);
        x.enrol(0, 0);
        return x;
    }

    static void promise09TwiceTheHoursAreOneBelowTheCut() {
        Expect.same("filled", inCourse(10, 21).isFilled(0, 5), false);
        Expect.same("filled by 19 of 39", inCourse(19, 39).isFilled(0, 5), false);
        Expect.same("filled by 19 of 40", inCourse(19, 40).isFilled(0, 5), false);
    }

    static void promise09TwiceTheHoursAreTheCut() {
        Expect.same("filled", inCourse(10, 20).isFilled(0, 5), true);
        Expect.same("filled by 20 of 40", inCourse(20, 40).isFilled(0, 5), true);
    }

    static void promise09TwiceTheHoursAreOneAboveTheCut() {
        Expect.same("filled", inCourse(10, 19).isFilled(0, 5), true);
        Expect.same("filled by 1 of 1", inCourse(1, 1).isFilled(0, 5), true);
    }

    static void promise09NoCut() {
        Expect.same("no notice", inCourse(1, 1).isFilled(0, 6), true);
        Expect.same("a notice of 0 hours", inCourse(1, 0).isFilled(0, 5), true);
    }

    static void promise09NoCourse() {
        Expect.same("neither cut nor course", Start.with(1).isFilled(0, 5), false);
        Expect.same("a cut and no course", Start.cutBy(1).isFilled(0, 5), false);
        Expect.same("the week ahead of the course", inCourse(40, 1).isFilled(0, 4), false);
        Expect.same("the week behind the course", inCourse(40, 1).isFilled(0, 7), false);
    }

    static void promise09ACourseOfAnotherWorker() {
        Expect.same("filled", seats(8, 1).isFilled(1, 20), false);
    }

    static void promise09ByNoticesAsTheyAreNow() {
        ShortWork x = inCourse(10, 20);
        x.notice(0, 5, 5, 21);
        Expect.same("cut more", x.isFilled(0, 5), false);
        x.notice(0, 5, 5, 20);
        Expect.same("cut less", x.isFilled(0, 5), true);
    }

    /** Who goes to a course late is in it in its passed weeks too, as courses are now. */
    static void promise09ByCoursesAsTheyAreNow() {
        ShortWork x = Start.busy();
        x.addCourse(1, 9, 12, 40);
        Expect.same("ahead of the course", x.isFilled(2, 9), false);
        x.enrol(2, 4);
        Expect.same("a week that has passed", x.isFilled(2, 9), true);
        Expect.same("the week that goes on", x.isFilled(2, 10), true);
        Expect.same("the last week", x.isFilled(2, 12), true);
    }

    static void promise09WhenAllHavePassed() {
        ShortWork x = Start.ended();
        Expect.same("the last week of its course", x.isFilled(0, 6), true);
        Expect.same("the last week", x.isFilled(0, 200), false);
    }

    static void promise09EachCourseOfAWorkerInItsWeeks() {
        ShortWork x = Start.with(1);
        x.notice(0, 5, 6, 20);
        x.addCourse(1, 5, 5, 9);
        x.addCourse(1, 6, 6, 10);
        x.enrol(0, 0);
        x.enrol(0, 1);
        Expect.same("by 9 hours", x.isFilled(0, 5), false);
        Expect.same("by 10 hours", x.isFilled(0, 6), true);
    }
}
