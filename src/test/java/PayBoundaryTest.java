/** The boundary cases of the floor, of weeks that pass and of pay: promises 6 and 10 to 14. */
public final class PayBoundaryTest {
    private static final int LOW = Integer.MIN_VALUE;
    private static final int HIGH = Integer.MAX_VALUE;

    private PayBoundaryTest() {
    }

    public static void main(String[] args) throws IllegalAccessException {
        Cases.run(PayBoundaryTest.class);
    }

    // ---- Promise 6: setFloor

    static void promise06PercentBelow0() {
        Refused.badArgument(Start::busy, x -> x.setFloor(-1));
        Refused.badArgument(Start::busy, x -> x.setFloor(LOW));
    }

    static void promise06PercentAt0() {
        floorIs(0, 600);
    }

    static void promise06PercentJustAbove0() {
        floorIs(1, 600);
    }

    static void promise06PercentJustBelow100() {
        floorIs(99, 990);
    }

    static void promise06PercentAt100() {
        floorIs(100, 1000);
    }

    static void promise06PercentAbove100() {
        Refused.badArgument(Start::busy, x -> x.setFloor(101));
        Refused.badArgument(Start::busy, x -> x.setFloor(HIGH));
    }

    private static void floorIs(int percent, int due) {
        ShortWork x = Start.cutBy(40);
        Expect.same("the floor before", x.setFloor(percent), 50);
        Expect.same("made up", x.pass(3), due);
        Expect.same("the floor", x.setFloor(1), percent);
    }

    static void promise06TheFirstFloorIs50() {
        Expect.same("the floor before", Start.empty().setFloor(50), 50);
    }

    static void promise06TheSameFloorAgain() {
        ShortWork x = Start.empty();
        x.setFloor(70);
        Expect.same("the floor before", x.setFloor(70), 70);
        Expect.same("the floor before that", x.setFloor(0), 70);
    }

    /** "For weeks that are paid from now on": the one that goes on is, the one behind it was. */
    static void promise06TheWeekBehindAndTheOneThatGoesOn() {
        ShortWork x = Start.cutBy(40);
        x.setFloor(70);
        x.pass(3);
        x.setFloor(80);
        x.pass(1);
        Expect.same("the week behind", x.madeUp(0, 2), 700);
        Expect.same("the week that went on", x.madeUp(0, 3), 800);
    }

    // ---- Promise 10: pass

    static void promise10WeeksBelow1() {
        Refused.badArgument(Start::busy, x -> x.pass(0));
        Refused.badArgument(Start::busy, x -> x.pass(-1));
        Refused.badArgument(Start::busy, x -> x.pass(LOW));
    }

    static void promise10WeeksAt1() {
        passes(1);
    }

    static void promise10WeeksJustAbove1() {
        passes(2);
    }

    static void promise10WeeksJustBelow60() {
        passes(59);
    }

    static void promise10WeeksAt60() {
        passes(60);
    }

    static void promise10WeeksAbove60() {
        Refused.badArgument(Start::busy, x -> x.pass(61));
        Refused.badArgument(Start::busy, x -> x.pass(HIGH));
    }

    /** Each week that passes is paid, and none beside them. */
    private static void passes(int weeks) {
        ShortWork x = Start.with(1);
        x.pass(weeks);
        Expect.same("week", x.week(), weeks);
        Expect.same("net", x.net(0), 1000 * weeks);
        Expect.same("the last week's pay", x.paid(0, weeks - 1), 1000);
        Expect.badArgument("the next week's pay", () -> x.paid(0, weeks));
    }

    static void promise10UpToWeek200() {
        ShortWork x = in(140);
        x.pass(60);
        Expect.same("week", x.week(), 200);
    }

    static void promise10UpToWeek201() {
        ShortWork x = in(141);
        x.pass(60);
        Expect.same("by 60 weeks", x.week(), 201);
        ShortWork y = in(200);
        y.pass(1);
        Expect.same("by 1 week", y.week(), 201);
        Expect.same("pay of week 200", y.paid(0, 200), 1000);
    }

    static void promise10AboveWeek201() {
        Refused.badState(() -> in(142), x -> x.pass(60));
        Refused.badState(() -> in(200), x -> x.pass(2));
        Refused.badState(Start::ended, x -> x.pass(1));
        Refused.badState(Start::ended, x -> x.pass(60));
    }

    static void promise10WeeksOutOfRangeAndAboveWeek201() {
        Refused.badArgument(Start::ended, x -> x.pass(0));
        Refused.badArgument(Start::ended, x -> x.pass(61));
        Refused.badArgument(Start::ended, x -> x.pass(HIGH));
        Refused.badArgument(Start::ended, x -> x.pass(LOW));
    }

    static void promise10RefusedWeeksDoNotPass() {
        ShortWork x = in(200);
        Expect.badState("2 weeks", () -> x.pass(2));
        Expect.same("week", x.week(), 200);
        Expect.same("net", x.net(0), 200000);
        x.pass(1);
        Expect.same("net of all weeks", x.net(0), 201000);
    }

    private static ShortWork in(int week) {
        ShortWork x = Start.with(1);
        Start.passTo(x, week);
        return x;
    }

    static void promise10NothingIsMadeUp() {
        Expect.same("without workers", Start.empty().pass(1), 0);
        Expect.same("without a cut", Start.with(8).pass(60), 0);
        Expect.same("a week ahead of the cut", Start.cutBy(40).pass(2), 0);
    }

    static void promise10TheMostIsMadeUp() {
        ShortWork x = Start.empty();
        x.setFloor(100);
        for (int worker = 0; worker < 8; worker++) {
            x.add(100000, true);
            x.notice(worker, 2, 200, 40);
        }
        x.pass(2);
        Expect.same("made up to all in 60 weeks", x.pass(60), 8 * 60 * 100000);
    }

    static void promise10TheSumOfWorkersAndWeeks() {
        ShortWork x = Start.with(2);
        x.notice(0, 2, 3, 40);
        x.notice(1, 3, 4, 20);
        Expect.same("made up", x.pass(5), 600 + 600 + 300 + 300);
    }

    // ---- Promise 11: week

    static void promise11Week0AtFirst() {
        Expect.same("week", Start.empty().week(), 0);
    }

    static void promise11Week1WhenOneHasPassed() {
        Expect.same("week", in(1).week(), 1);
    }

    static void promise11Week200IsTheLast() {
        Expect.same("week", in(200).week(), 200);
    }

    static void promise11Week201WhenAllHavePassed() {
        Expect.same("week", Start.ended().week(), 201);
    }

    // ---- Promise 12: paid; in the bureau of busy() the week 10 goes on

    static void promise12WorkerBelow0() {
        Refused.outOfBounds(Start::busy, x -> x.paid(-1, 5));
        Refused.outOfBounds(Start::busy, x -> x.paid(LOW, 5));
    }

    static void promise12WorkerAt0() {
        Expect.same("paid", Start.busy().paid(0, 5), 500);
    }

    static void promise12TheLastWorker() {
        Expect.same("paid", Start.busy().paid(2, 9), 20);
        Expect.same("paid to the eighth", eighthPaid().paid(7, 0), 8);
    }

    static void promise12WorkerOnePastTheLast() {
        Refused.outOfBounds(Start::busy, x -> x.paid(3, 5));
        Refused.outOfBounds(Start::full, x -> x.paid(8, 5));
        Refused.outOfBounds(Start::busy, x -> x.paid(HIGH, 5));
    }

    static void promise12WeekBelow0() {
        Refused.badArgument(Start::busy, x -> x.paid(0, -1));
        Refused.badArgument(Start::busy, x -> x.paid(0, LOW));
    }

    static void promise12WeekAt0AndJustAbove() {
        Expect.same("paid in 0", Start.busy().paid(0, 0), 1000);
        Expect.same("paid in 1", Start.busy().paid(0, 1), 1000);
    }

    static void promise12WeekThatHasJustPassed() {
        Expect.same("paid", Start.busy().paid(0, 9), 500);
    }

    static void promise12WeekThatGoesOn() {
        Refused.badArgument(Start::busy, x -> x.paid(0, 10));
        Refused.badArgument(() -> Start.with(1), x -> x.paid(0, 0));
    }

    static void promise12WeekAhead() {
        Refused.badArgument(Start::busy, x -> x.paid(0, 11));
        Refused.badArgument(Start::busy, x -> x.paid(0, 200));
        Refused.badArgument(Start::busy, x -> x.paid(0, 201));
        Refused.badArgument(Start::busy, x -> x.paid(0, HIGH));
    }

    static void promise12TheLastWeek() {
        Expect.same("paid", Start.ended().paid(0, 200), 1000);
        Refused.badArgument(() -> in(200), x -> x.paid(0, 200));
    }

    static void promise12OnePastTheLastWeek() {
        Refused.badArgument(Start::ended, x -> x.paid(0, 201));
        Refused.badArgument(Start::ended, x -> x.paid(0, 202));
    }

    static void promise12NoWorkerAndWeekOutOfRange() {
        Refused.outOfBounds(Start::busy, x -> x.paid(3, -1));
        Refused.outOfBounds(Start::busy, x -> x.paid(-1, 10));
    }

    static void promise12AheadOfTheWorkersAdding() {
        Expect.same("the first week", Start.busy().paid(2, 0), 0);
        Expect.same("the week just ahead", Start.busy().paid(2, 8), 0);
        Expect.same("the week of the adding", Start.busy().paid(2, 9), 20);
    }

    static void promise12AddedWhenAllHavePassed() {
        Expect.same("the last week", addedAtTheEnd().paid(3, 200), 0);
    }

    private static ShortWork addedAtTheEnd() {
        ShortWork x = Start.ended();
        Expect.same("number", x.add(1000, true), 3);
        return x;
    }

    static void promise12CutBy0() {
        Expect.same("paid", paidAt(999, 0), 999);
    }

    /** 999 * 39 / 40 is 974.025. */
    static void promise12CutBy1() {
        Expect.same("paid", paidAt(999, 1), 974);
    }

    /** 999 / 40 is 24.975. */
    static void promise12CutBy39() {
        Expect.same("paid", paidAt(999, 39), 24);
    }

    static void promise12CutBy40() {
        Expect.same("paid", paidAt(999, 40), 0);
    }

    static void promise12RoundedDownToNothing() {
        Expect.same("39 of 40 of 1", paidAt(1, 1), 0);
        Expect.same("39 of 40 of 2", paidAt(2, 1), 1);
        Expect.same("1 of 40 of 39", paidAt(39, 39), 0);
        Expect.same("1 of 40 of 40", paidAt(40, 39), 1);
    }

    static void promise12TheMostPay() {
        Expect.same("cut by 0", paidAt(100000, 0), 100000);
        Expect.same("cut by 1", paidAt(100000, 1), 97500);
    }

    /** "By notices as they are then": those that are told for the week ahead of its passing. */
    static void promise12ByNoticesAsTheyWereThen() {
        ShortWork x = Start.cutBy(20);
        x.pass(1);
        x.notice(0, 3, 3, 40);
        x.pass(3);
        Expect.same("the week ahead of the later notice", x.paid(0, 2), 500);
        Expect.same("the week of the later notice", x.paid(0, 3), 0);
        x.notice(0, 6, 200, 0);
        Expect.same("after a notice for weeks to come", x.paid(0, 2), 500);
    }

    private static int paidAt(int pay, int cut) {
        return cutOnce(pay, cut).paid(0, 2);
    }

    /** One worker who is cut in week 2 alone; the weeks 0 to 2 are paid. */
    private static ShortWork cutOnce(int pay, int cut) {
        ShortWork x = Start.empty();
        x.add(pay, false);
        x.notice(0, 2, 2, cut);
        x.pass(3);
        return x;
    }

    private static ShortWork eighthPaid() {
        ShortWork x = Start.with(7);
        x.add(8, false);
        x.pass(1);
        return x;
    }

    // ---- Promise 13: madeUp

    static void promise13WorkerBelow0() {
        Refused.outOfBounds(Start::busy, x -> x.madeUp(-1, 5));
        Refused.outOfBounds(Start::busy, x -> x.madeUp(LOW, 5));
    }

    static void promise13WorkerAt0() {
        Expect.same("made up", Start.busy().madeUp(0, 5), 325);
    }

    static void promise13TheLastWorker() {
        Expect.same("made up", Start.busy().madeUp(2, 9), 0);
        ShortWork x = Start.with(8);
        x.notice(7, 2, 2, 40);
        x.pass(3);
        Expect.same("made up to the eighth", x.madeUp(7, 2), 600);
    }

    static void promise13WorkerOnePastTheLast() {
        Refused.outOfBounds(Start::busy, x -> x.madeUp(3, 5));
        Refused.outOfBounds(Start::full, x -> x.madeUp(8, 5));
        Refused.outOfBounds(Start::busy, x -> x.madeUp(HIGH, 5));
    }

    static void promise13WeekBelow0() {
        Refused.badArgument(Start::busy, x -> x.madeUp(0, -1));
        Refused.badArgument(Start::busy, x -> x.madeUp(0, LOW));
    }

    static void promise13WeekAt0AndJustAbove() {
        Expect.same("made up in 0", Start.busy().madeUp(0, 0), 0);
        Expect.same("made up in 1", Start.busy().madeUp(0, 1), 0);
    }

    static void promise13WeekThatHasJustPassed() {
        Expect.same("made up", Start.busy().madeUp(0, 9), 300);
    }

    static void promise13WeekThatGoesOn() {
        Refused.badArgument(Start::busy, x -> x.madeUp(0, 10));
        Refused.badArgument(() -> Start.with(1), x -> x.madeUp(0, 0));
    }

    static void promise13WeekAhead() {
        Refused.badArgument(Start::busy, x -> x.madeUp(0, 11));
        Refused.badArgument(Start::busy, x -> x.madeUp(0, 200));
        Refused.badArgument(Start::busy, x -> x.madeUp(0, 201));
        Refused.badArgument(Start::busy, x -> x.madeUp(0, HIGH));
    }

    static void promise13TheLastWeek() {
        ShortWork x = Start.with(1);
        x.notice(0, 200, 200, 40);
        Start.passTo(x, 201);
        Expect.same("made up", x.madeUp(0, 200), 600);
        Refused.badArgument(() -> in(200), y -> y.madeUp(0, 200));
    }

    static void promise13OnePastTheLastWeek() {
        Refused.badArgument(Start::ended, x -> x.madeUp(0, 201));
        Refused.badArgument(Start::ended, x -> x.madeUp(0, 202));
    }

    static void promise13NoWorkerAndWeekOutOfRange() {
        Refused.outOfBounds(Start::busy, x -> x.madeUp(3, -1));
        Refused.outOfBounds(Start::busy, x -> x.madeUp(-1, 10));
    }

    static void promise13AheadOfTheWorkersAdding() {
        Expect.same("the first week", Start.busy().madeUp(2, 0), 0);
        Expect.same("the week just ahead", Start.busy().madeUp(2, 8), 0);
    }

    static void promise13AddedWhenAllHavePassed() {
        Expect.same("the last week", addedAtTheEnd().madeUp(3, 200), 0);
    }

    static void promise13CutBy0() {
        Expect.same("made up", cutOnce(999, 0).madeUp(0, 2), 0);
    }

    /** 60 percent of 999 less 974. */
    static void promise13CutBy1() {
        Expect.same("made up", cutOnce(999, 1).madeUp(0, 2), 15);
    }

    /** 60 percent of 999 less 24 is 585. */
    static void promise13CutBy39() {
        Expect.same("made up", cutOnce(999, 39).madeUp(0, 2), 585);
    }

    /** 60 percent of 999 is 599.4. */
    static void promise13CutBy40() {
        Expect.same("made up", cutOnce(999, 40).madeUp(0, 2), 599);
    }

    /** What is lost is the full pay less the rounded pay of the firm: 60 percent of 1, not of 0.05. */
    static void promise13TheLossOfTheRoundedPay() {
        Expect.same("made up of 2", cutOnce(2, 1).madeUp(0, 2), 0);
        Expect.same("made up of 79 less 38", cutOnce(79, 20).madeUp(0, 2), 24);
        Expect.same("made up of 81 less 40", cutOnce(81, 20).madeUp(0, 2), 24);
        Expect.same("made up of 43 less 41", cutOnce(43, 1).madeUp(0, 2), 1);
    }

    static void promise13NoWeekBefore() {
        Expect.same("plain", after(0, false, false), 600);
        Expect.same("filled", after(0, false, true), 650);
        Expect.same("with children", after(0, true, false), 670);
        Expect.same("filled with children", after(0, true, true), 720);
    }

    static void promise13OneShortOf12WeeksBefore() {
        Expect.same("plain", after(11, false, false), 600);
        Expect.same("filled", after(11, false, true), 650);
        Expect.same("with children", after(11, true, false), 670);
        Expect.same("filled with children", after(11, true, true), 720);
    }

    static void promise13At12WeeksBefore() {
        Expect.same("70 less 10", after(12, false, false), 600);
        Expect.same("70 and 5 filled", after(12, false, true), 750);
        Expect.same("70 and 7 less 10", after(12, true, false), 670);
        Expect.same("70 and 7 and 5", after(12, true, true), 820);
    }

    static void promise13OnePast12WeeksBefore() {
        Expect.same("70 less 10", after(13, false, false), 600);
        Expect.same("70 and 5 filled", after(13, false, true), 750);
    }

    static void promise13OneShortOf24WeeksBefore() {
        Expect.same("70 less 10", after(23, false, false), 600);
        Expect.same("70 and 5 filled", after(23, false, true), 750);
        Expect.same("70 and 7 less 10", after(23, true, false), 670);
        Expect.same("70 and 7 and 5", after(23, true, true), 820);
    }

    static void promise13At24WeeksBefore() {
        Expect.same("80 less 10", after(24, false, false), 700);
        Expect.same("80 and 5 filled", after(24, false, true), 850);
        Expect.same("80 and 7 less 10", after(24, true, false), 770);
        Expect.same("80 and 7 and 5", after(24, true, true), 920);
    }

    static void promise13OnePast24WeeksBefore() {
        Expect.same("80 less 10", after(25, false, false), 700);
        Expect.same("80 and 5 filled", after(25, false, true), 850);
    }

    static void promise13TheMostWeeksBefore() {
        Expect.same("80 less 10", after(198, false, false), 700);
        Expect.same("80 and 7 and 5", after(198, true, true), 920);
    }

    /** What is made up in the week that follows some weeks with a cut, of a loss of 1000. */
    private static int after(int cutWeeks, boolean hasChildren, boolean isFilled) {
        ShortWork x = Start.empty();
        x.setFloor(0);
        x.add(1000, hasChildren);
        x.notice(0, 2, 200, 40);
        x.addCourse(1, 2 + cutWeeks, 2 + cutWeeks, 20);
        if (isFilled) {
            x.enrol(0, 0);
        }
        Start.passTo(x, 3 + cutWeeks);
        return x.madeUp(0, 2 + cutWeeks);
    }

    /** A week whose notice tells 0 hours is none with a cut. */
    static void promise13NoticesOf0HoursAreNoWeeksBefore() {
        ShortWork x = filledFrom2();
        x.notice(0, 5, 9, 0);
        x.pass(20);
        Expect.same("the 12th week", x.madeUp(0, 18), 650);
        Expect.same("the 13th week", x.madeUp(0, 19), 750);
    }

    static void promise13WeeksCutBy1HourAreWeeksBefore() {
        ShortWork x = filledFrom2();
        x.notice(0, 2, 13, 1);
        x.pass(15);
        Expect.same("the 13th week", x.madeUp(0, 14), 750);
    }

    static void promise13WeeksOfAnotherWorkerAreNoWeeksBefore() {
        ShortWork x = filledFrom2();
        x.add(1000, false);
        x.notice(1, 14, 14, 40);
        x.enrol(1, 0);
        x.pass(15);
        Expect.same("the one's 13th week", x.madeUp(0, 14), 750);
        Expect.same("the other's first week", x.madeUp(1, 14), 650);
    }

    static void promise13APauseLeavesTheWeeksBefore() {
        ShortWork x = filledFrom2();
        x.notice(0, 14, 150, 0);
        Start.passTo(x, 152);
        Expect.same("the 13th week", x.madeUp(0, 151), 750);
    }

    /** The weeks that pass in one call count for each other. */
    static void promise13WeeksOfOneCallCount() {
        ShortWork one = filledFrom2();
        one.pass(40);
        ShortWork other = filledFrom2();
        for (int i = 0; i < 40; i++) {
            other.pass(1);
        }
        Expect.same("net", one.net(0), other.net(0));
        Expect.same("net as due", one.net(0), 2000 + 12 * 650 + 12 * 750 + 14 * 850);
    }

    /** A worker who is cut by 40 and filled in the weeks 2 to 200. */
    private static ShortWork filledFrom2() {
        ShortWork x = Start.cutBy(40);
        x.addCourse(8, 2, 200, 20);
        x.enrol(0, 0);
        return x;
    }

    static void promise13TwiceTheHoursAreOneBelowTheCut() {
        Expect.same("60 percent of 525", inCourse(10, 21), 315);
    }

    static void promise13TwiceTheHoursAreTheCut() {
        Expect.same("65 percent of 500", inCourse(10, 20), 325);
    }

    static void promise13TwiceTheHoursAreOneAboveTheCut() {
        Expect.same("65 percent of 475", inCourse(10, 19), 308);
    }

    private static int inCourse(int hours, int cut) {
        ShortWork x = Start.cutBy(cut);
        x.addCourse(1, 2, 2, hours);
        x.enrol(0, 0);
        return x.pass(3);
    }

    /** "By notices and courses as they are then": going to a course late pays nothing more. */
    static void promise13ByCoursesAsTheyWereThen() {
        ShortWork x = Start.cutBy(20);
        x.addCourse(1, 2, 5, 10);
        x.pass(4);
        x.enrol(0, 0);
        x.pass(1);
        Expect.same("filled by now", x.isFilled(0, 3), true);
        Expect.same("not filled then", x.madeUp(0, 3), 300);
        Expect.same("filled then", x.madeUp(0, 4), 325);
    }

    static void promise13JustBelowTheFloor() {
        Expect.same("500 and 300 are below 810", withFloor(1000, 20, 81), 310);
    }

    static void promise13AtTheFloor() {
        Expect.same("500 and 300 are 800", withFloor(1000, 20, 80), 300);
    }

    static void promise13JustAboveTheFloor() {
        Expect.same("500 and 300 are above 790", withFloor(1000, 20, 79), 300);
    }

    static void promise13OneBelowTheFloor() {
        Expect.same("0 and 66 are below 67", withFloor(111, 40, 61), 67);
        Expect.same("0 and 66 are 66", withFloor(111, 40, 60), 66);
    }

    static void promise13TheFloorIsRoundedDown() {
        Expect.same("66 percent of 3 are 1.98", withFloor(3, 40, 66), 1);
        Expect.same("67 percent of 3 are 2.01", withFloor(3, 40, 67), 2);
        Expect.same("99 percent of 1 are 0.99", withFloor(1, 40, 99), 0);
        Expect.same("61 percent of 999 are 609.39", withFloor(999, 40, 61), 609);
    }

    static void promise13NoFloor() {
        Expect.same("60 percent of 1000", withFloor(1000, 40, 0), 600);
    }

    static void promise13TheFloorOfAPayThatIsNotCut() {
        Expect.same("nothing is missing", withFloor(1000, 0, 100), 0);
    }

    static void promise13NobodyGetsMoreThanTheFullPay() {
        Expect.same("all of 1000", withFloor(1000, 40, 100), 1000);
        Expect.same("the rest of 999", withFloor(999, 1, 100), 25);
        Expect.same("the rest of 1", withFloor(1, 1, 100), 1);
        Expect.same("all of the most", withFloor(100000, 40, 100), 100000);
    }

    private static int withFloor(int pay, int cut, int percent) {
        ShortWork x = Start.empty();
        x.add(pay, false);
        x.notice(0, 2, 2, cut);
        x.setFloor(percent);
        x.pass(3);
        return x.madeUp(0, 2);
    }

    // ---- Promise 14: cutWeeks

    static void promise14WorkerBelow0() {
        Refused.outOfBounds(Start::busy, x -> x.cutWeeks(-1));
        Refused.outOfBounds(Start::busy, x -> x.cutWeeks(LOW));
    }

    static void promise14WorkerAt0() {
        Expect.same("weeks", Start.busy().cutWeeks(0), 8);
    }

    static void promise14TheLastWorker() {
        Expect.same("weeks", Start.busy().cutWeeks(2), 0);
        Expect.same("weeks of the eighth", Start.full().cutWeeks(7), 0);
    }

    static void promise14WorkerOnePastTheLast() {
        Refused.outOfBounds(Start::busy, x -> x.cutWeeks(3));
        Refused.outOfBounds(Start::full, x -> x.cutWeeks(8));
        Refused.outOfBounds(Start::busy, x -> x.cutWeeks(HIGH));
    }

    static void promise14TheWeekThatGoesOnIsNotPaid() {
        ShortWork x = Start.cutBy(20);
        x.pass(2);
        Expect.same("the first goes on", x.cutWeeks(0), 0);
        x.pass(1);
        Expect.same("the first has passed", x.cutWeeks(0), 1);
    }

    static void promise14CutBy0() {
        Expect.same("weeks", cutOnce(1000, 0).cutWeeks(0), 0);
    }

    static void promise14CutBy1() {
        Expect.same("weeks", cutOnce(1000, 1).cutWeeks(0), 1);
    }

    static void promise14CutBy40() {
        Expect.same("weeks", cutOnce(1000, 40).cutWeeks(0), 1);
    }

    static void promise14NothingLostAndNothingMadeUp() {
        ShortWork x = Start.empty();
        x.setFloor(0);
        x.add(1, false);
        x.notice(0, 2, 3, 40);
        x.pass(4);
        Expect.same("made up", x.madeUp(0, 2), 0);
        Expect.same("weeks", x.cutWeeks(0), 2);
    }

    static void promise14AllWeeks() {
        ShortWork x = Start.cutBy(1);
        Start.passTo(x, 201);
        Expect.same("weeks", x.cutWeeks(0), 199);
    }

    static void promise14WorkersAreApart() {
        ShortWork x = Start.busy();
        Expect.same("the one", x.cutWeeks(0), 8);
        Expect.same("the other", x.cutWeeks(1), 6);
    }
}
