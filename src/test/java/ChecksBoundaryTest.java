/** The boundary cases of doors, mails, checks and debts: promises 15 to 20. */
public final class ChecksBoundaryTest {
    private static final int LOW = Integer.MIN_VALUE;
    private static final int HIGH = Integer.MAX_VALUE;

    private ChecksBoundaryTest() {
    }

    public static void main(String[] args) throws IllegalAccessException {
        Cases.run(ChecksBoundaryTest.class);
    }

    /** One worker of pay 1000 who is cut by 40 in the weeks 2 to 9; the week 10 goes on. */
    private static ShortWork owing() {
        ShortWork x = Start.with(1);
        x.notice(0, 2, 9, 40);
        x.pass(10);
        return x;
    }

    // ---- Promise 15: door; in the bureau of busy() the week 10 goes on, week 3 is checked

    static void promise15WorkerBelow0() {
        Refused.outOfBounds(Start::busy, x -> x.door(-1, 5, 40));
        Refused.outOfBounds(Start::busy, x -> x.door(LOW, 5, 40));
    }

    static void promise15WorkerAt0() {
        ShortWork x = owing();
        x.door(0, 2, 40);
        Expect.same("who owes", x.check(2), 1);
    }

    static void promise15TheLastWorker() {
        ShortWork x = Start.with(8);
        x.notice(7, 2, 2, 40);
        x.pass(3);
        x.door(7, 2, 40);
        Expect.same("who owes", x.check(2), 1);
        Expect.same("what", x.owes(7), 300);
    }

    static void promise15WorkerOnePastTheLast() {
        Refused.outOfBounds(Start::busy, x -> x.door(3, 5, 40));
        Refused.outOfBounds(Start::full, x -> x.door(8, 5, 40));
        Refused.outOfBounds(Start::busy, x -> x.door(HIGH, 5, 40));
    }

    static void promise15WeekBelow0() {
        Refused.badArgument(Start::busy, x -> x.door(0, -1, 40));
        Refused.badArgument(Start::busy, x -> x.door(0, LOW, 40));
    }

    static void promise15WeekAt0AndJustAbove() {
        ShortWork x = Start.busy();
        x.door(0, 0, 40);
        x.door(0, 1, 40);
        Expect.same("week", x.week(), 10);
    }

    static void promise15WeekThatHasJustPassed() {
        ShortWork x = owing();
        x.door(0, 9, 40);
        Expect.same("who owes", x.check(9), 1);
    }

    static void promise15WeekThatGoesOn() {
        Refused.badArgument(Start::busy, x -> x.door(0, 10, 40));
        Refused.badArgument(() -> Start.with(1), x -> x.door(0, 0, 40));
    }

    static void promise15WeekAhead() {
        Refused.badArgument(Start::busy, x -> x.door(0, 11, 40));
        Refused.badArgument(Start::busy, x -> x.door(0, 200, 40));
        Refused.badArgument(Start::busy, x -> x.door(0, 201, 40));
        Refused.badArgument(Start::busy, x -> x.door(0, HIGH, 40));
    }

    static void promise15TheLastWeek() {
        ShortWork x = lastWeek();
        x.door(0, 200, 40);
        Expect.same("who owes", x.check(200), 1);
    }

    static void promise15OnePastTheLastWeek() {
        Refused.badArgument(Start::ended, x -> x.door(0, 201, 40));
    }

    /** A worker who is cut in week 200, when it has passed. */
    private static ShortWork lastWeek() {
        ShortWork x = Start.with(1);
        x.notice(0, 200, 200, 40);
        Start.passTo(x, 201);
        return x;
    }

    static void promise15HoursBelow0() {
        Refused.badArgument(Start::busy, x -> x.door(0, 5, -1));
        Refused.badArgument(Start::busy, x -> x.door(0, 5, LOW));
    }

    static void promise15HoursAt0AndJustAbove() {
        lastWordIs(0, 0);
        lastWordIs(1, 0);
    }

    static void promise15HoursJustBelow80AndAt80() {
        lastWordIs(79, 1);
        lastWordIs(80, 1);
    }

    static void promise15HoursAbove80() {
        Refused.badArgument(Start::busy, x -> x.door(0, 4, 81));
        Refused.badArgument(Start::busy, x -> x.door(0, 4, HIGH));
    }

    /** "The last word counts", above the words before it and below them. */
    private static void lastWordIs(int hours, int due) {
        for (int before : new int[] {0, 1, 80}) {
            ShortWork x = owing();
            x.door(0, 2, before);
            x.door(0, 2, hours);
            Expect.same("who owes after " + before, x.check(2), due);
        }
    }

    static void promise15TheWeekWasChecked() {
        Refused.badState(Start::busy, x -> x.door(0, 3, 40));
        Refused.badState(Start::busy, x -> x.door(2, 3, 0));
    }

    static void promise15TheWeekWasCheckedForNobody() {
        Refused.badState(() -> {
            ShortWork x = owing();
            x.check(2);
            return x;
        }, x -> x.door(0, 2, 40));
    }

    static void promise15TheWeeksBesideACheckedOne() {
        ShortWork x = owing();
        x.check(5);
        x.door(0, 4, 40);
        x.door(0, 6, 40);
        Expect.same("the week ahead", x.check(4), 1);
        Expect.same("the week behind", x.check(6), 1);
    }

    static void promise15NoWorkerAndAnArgumentOutOfRange() {
        Refused.outOfBounds(Start::busy, x -> x.door(3, -1, 40));
        Refused.outOfBounds(Start::busy, x -> x.door(3, 10, 40));
        Refused.outOfBounds(Start::busy, x -> x.door(3, 5, 81));
        Refused.outOfBounds(Start::busy, x -> x.door(-1, 5, -1));
    }

    static void promise15NoWorkerAndTheWeekWasChecked() {
        Refused.outOfBounds(Start::busy, x -> x.door(3, 3, 40));
        Refused.outOfBounds(Start::busy, x -> x.door(-1, 3, 40));
    }

    static void promise15HoursOutOfRangeAndTheWeekWasChecked() {
        Refused.badArgument(Start::busy, x -> x.door(0, 3, -1));
        Refused.badArgument(Start::busy, x -> x.door(0, 3, 81));
    }

    static void promise15AllAtOnce() {
        Refused.outOfBounds(Start::busy, x -> x.door(3, 3, 81));
    }

    static void promise15AheadOfTheWorkersAdding() {
        ShortWork x = Start.busy();
        x.door(2, 8, 80);
        Expect.same("who owes", x.check(8), 0);
    }

    // ---- Promise 16: mail

    static void promise16WorkerBelow0() {
        Refused.outOfBounds(Start::busy, x -> x.mail(-1, 5));
        Refused.outOfBounds(Start::busy, x -> x.mail(LOW, 5));
    }

    static void promise16WorkerAt0() {
        mailIsKnown(owing(), 0, 2);
    }

    static void promise16TheLastWorker() {
        ShortWork x = Start.with(8);
        x.notice(7, 2, 2, 40);
        x.pass(3);
        mailIsKnown(x, 7, 2);
    }

    static void promise16WorkerOnePastTheLast() {
        Refused.outOfBounds(Start::busy, x -> x.mail(3, 5));
        Refused.outOfBounds(Start::full, x -> x.mail(8, 5));
        Refused.outOfBounds(Start::busy, x -> x.mail(HIGH, 5));
    }

    static void promise16WeekBelow0() {
        Refused.badArgument(Start::busy, x -> x.mail(0, -1));
        Refused.badArgument(Start::busy, x -> x.mail(0, LOW));
    }

    static void promise16WeekAt0AndJustAbove() {
        ShortWork x = Start.busy();
        x.mail(0, 0);
        x.mail(0, 1);
        Expect.same("week", x.week(), 10);
    }

    static void promise16WeekThatHasJustPassed() {
        mailIsKnown(owing(), 0, 9);
    }

    static void promise16WeekThatGoesOn() {
        Refused.badArgument(Start::busy, x -> x.mail(0, 10));
        Refused.badArgument(() -> Start.with(1), x -> x.mail(0, 0));
    }

    static void promise16WeekAhead() {
        Refused.badArgument(Start::busy, x -> x.mail(0, 11));
        Refused.badArgument(Start::busy, x -> x.mail(0, 200));
        Refused.badArgument(Start::busy, x -> x.mail(0, 201));
        Refused.badArgument(Start::busy, x -> x.mail(0, HIGH));
    }

    static void promise16TheLastWeek() {
        mailIsKnown(lastWeek(), 0, 200);
    }

    static void promise16OnePastTheLastWeek() {
        Refused.badArgument(Start::ended, x -> x.mail(0, 201));
    }

    private static void mailIsKnown(ShortWork x, int worker, int week) {
        x.mail(worker, week);
        x.door(worker, week, 40);
        Expect.same("who owes", x.check(week), 1);
        Expect.same("the worker", x.owes(worker), 0);
        Expect.same("the firm", x.firmOwes(), 660);
    }

    static void promise16TheWeekWasChecked() {
        Refused.badState(Start::busy, x -> x.mail(0, 3));
        Refused.badState(Start::busy, x -> x.mail(1, 3));
    }

    static void promise16TheWeeksBesideACheckedOne() {
        ShortWork x = owing();
        x.check(5);
        x.mail(0, 4);
        mailIsKnown(x, 0, 6);
    }

    static void promise16NoWorkerAndWeekOutOfRange() {
        Refused.outOfBounds(Start::busy, x -> x.mail(3, -1));
        Refused.outOfBounds(Start::busy, x -> x.mail(-1, 10));
    }

    static void promise16NoWorkerAndTheWeekWasChecked() {
        Refused.outOfBounds(Start::busy, x -> x.mail(3, 3));
        Refused.outOfBounds(Start::busy, x -> x.mail(-1, 3));
    }

    static void promise16ToldTwice() {
        ShortWork x = owing();
        x.mail(0, 2);
        mailIsKnown(x, 0, 2);
    }

    static void promise16AfterTheDoors() {
        ShortWork x = owing();
        x.door(0, 2, 40);
        mailIsKnown(x, 0, 2);
    }

    static void promise16OfAnotherWorkerOrWeek() {
        ShortWork x = Start.with(2);
        x.notice(0, 2, 9, 40);
        x.pass(10);
        x.door(0, 2, 40);
        x.mail(1, 2);
        x.mail(0, 1);
        x.mail(0, 3);
        x.check(2);
        Expect.same("the worker", x.owes(0), 300);
        Expect.same("the firm", x.firmOwes(), 300);
    }

    static void promise16WithoutDoors() {
        ShortWork x = owing();
        x.mail(0, 2);
        Expect.same("who owes", x.check(2), 0);
        Expect.same("the firm", x.firmOwes(), 0);
    }

    // ---- Promise 17: check

    static void promise17WeekBelow0() {
        Refused.badArgument(Start::busy, x -> x.check(-1));
        Refused.badArgument(Start::busy, x -> x.check(LOW));
    }

    static void promise17WeekAt0AndJustAbove() {
        ShortWork x = Start.busy();
        Expect.same("week 0", x.check(0), 0);
        Expect.same("week 1", x.check(1), 0);
    }

    static void promise17WeekThatHasJustPassed() {
        Expect.same("who owes", Start.busy().check(9), 0);
    }

    static void promise17WeekThatGoesOn() {
        Refused.badArgument(Start::busy, x -> x.check(10));
        Refused.badArgument(Start::empty, x -> x.check(0));
    }

    static void promise17WeekAhead() {
        Refused.badArgument(Start::busy, x -> x.check(11));
        Refused.badArgument(Start::busy, x -> x.check(200));
        Refused.badArgument(Start::busy, x -> x.check(201));
        Refused.badArgument(Start::busy, x -> x.check(HIGH));
    }

    static void promise17TheLastWeek() {
        Expect.same("who owes", Start.ended().check(200), 0);
        Refused.badArgument(() -> {
            ShortWork x = Start.with(1);
            Start.passTo(x, 200);
            return x;
        }, x -> x.check(200));
    }

    static void promise17OnePastTheLastWeek() {
        Refused.badArgument(Start::ended, x -> x.check(201));
    }

    static void promise17TheWeekWasChecked() {
        Refused.badState(Start::busy, x -> x.check(3));
    }

    static void promise17TheWeekWasCheckedForNobody() {
        Refused.badState(() -> {
            ShortWork x = Start.empty();
            x.pass(1);
            x.check(0);
            return x;
        }, x -> x.check(0));
    }

    static void promise17TheWeeksBesideACheckedOne() {
        ShortWork x = Start.busy();
        Expect.same("the week ahead", x.check(2), 0);
        Expect.same("the week behind", x.check(4), 0);
    }

    static void promise17AllWeeksAreCheckedOnce() {
        ShortWork x = lastWeek();
        for (int at = 200; at >= 0; at--) {
            int week = at;
            Expect.same("week " + week, x.check(week), 0);
            Expect.badState("week " + week + " again", () -> x.check(week));
        }
    }

    static void promise17NoWorkers() {
        ShortWork x = Start.empty();
        x.pass(1);
        Expect.same("who owes", x.check(0), 0);
    }

    static void promise17NoneOf8() {
        Expect.same("who owes", ofEight(0).check(2), 0);
    }

    static void promise17OneOf8() {
        Expect.same("who owes", ofEight(1).check(2), 1);
    }

    static void promise17AllBut1Of8() {
        Expect.same("who owes", ofEight(7).check(2), 7);
    }

    static void promise17AllOf8() {
        Expect.same("who owes", ofEight(8).check(2), 8);
    }

    /** Eight workers, cut in week 2; doors told of some of them, beginning with the last. */
    private static ShortWork ofEight(int seen) {
        ShortWork x = Start.with(8);
        for (int worker = 0; worker < 8; worker++) {
            x.notice(worker, 2, 2, 40);
        }
        x.pass(3);
        for (int worker = 7; worker > 7 - seen; worker--) {
            x.door(worker, 2, 3);
        }
        return x;
    }

    static void promise17WhoOwesByAnEarlierCheckIsNotCounted() {
        ShortWork x = owing();
        x.door(0, 2, 40);
        Expect.same("the one week", x.check(2), 1);
        Expect.same("the other week", x.check(3), 0);
    }

    static void promise17JustBelow2HoursMore() {
        Expect.same("1 hour, cut by 40", owedAt(40, 1), 0);
        Expect.same("26 hours, cut by 15", owedAt(15, 26), 0);
    }

    static void promise17At2HoursMore() {
        Expect.same("2 hours, cut by 40", owedAt(40, 2), 0);
        Expect.same("27 hours, cut by 15", owedAt(15, 27), 0);
        Expect.same("41 hours, cut by 1", owedAt(1, 41), 0);
    }

    static void promise17JustAbove2HoursMore() {
        Expect.same("3 hours, cut by 40", owedAt(40, 3), 1);
        Expect.same("28 hours, cut by 15", owedAt(15, 28), 1);
        Expect.same("42 hours, cut by 1", owedAt(1, 42), 1);
    }

    static void promise17TheMostHours() {
        Expect.same("80 hours, cut by 40", owedAt(40, 80), 1);
        Expect.same("80 hours, cut by 1", owedAt(1, 80), 1);
    }

    static void promise17NoHours() {
        Expect.same("0 hours, cut by 40", owedAt(40, 0), 0);
        Expect.same("0 hours, cut by 1", owedAt(1, 0), 0);
    }

    static void promise17NoCutAndTheMostHours() {
        Expect.same("80 hours, no cut", owedAt(0, 80), 0);
    }

    private static int owedAt(int cut, int hours) {
        ShortWork x = Start.cutBy(cut);
        x.pass(3);
        x.door(0, 2, hours);
        int owing = x.check(2);
        Expect.same("something is owed", x.firmOwes() > 0, owing > 0);
        return owing;
    }

    static void promise17DoorsWereNotTold() {
        Expect.same("who owes", owing().check(2), 0);
    }

    static void promise17DoorsWereToldForOtherWeeks() {
        ShortWork x = owing();
        x.door(0, 2, 80);
        x.door(0, 4, 80);
        Expect.same("who owes", x.check(3), 0);
    }

    static void promise17DoorsWereToldForAnotherWorker() {
        ShortWork x = Start.with(3);
        x.notice(1, 2, 2, 40);
        x.pass(3);
        x.door(0, 2, 80);
        x.door(2, 2, 80);
        Expect.same("who owes", x.check(2), 0);
    }

    /** 60 percent of 1 are nothing, of 2 they are 1. */
    static void promise17NothingWasMadeUp() {
        Expect.same("nothing", owedOf(1, false).check(2), 0);
        Expect.same("nothing with a mail", owedOf(1, true).check(2), 0);
    }

    static void promise17TheLeastWasMadeUp() {
        Expect.same("1 is something", owedOf(2, false).check(2), 1);
        Expect.same("1 is something with a mail", owedOf(2, true).check(2), 1);
    }

    static void promise17TheCutAsItWasPaid() {
        ShortWork x = Start.cutBy(15);
        x.pass(3);
        x.notice(0, 5, 200, 40);
        x.door(0, 2, 27);
        Expect.same("2 hours above 25", x.check(2), 0);
    }

    /** A worker to whom 60 percent of the pay were made up in week 2, and who was there in full. */
    private static ShortWork owedOf(int pay, boolean hasMail) {
        ShortWork x = Start.paidOnce(pay);
        x.door(0, 2, 40);
        if (hasMail) {
            x.mail(0, 2);
        }
        return x;
    }

    // ---- Promises 18 and 19: firmOwes and owes

    static void promise18NothingAheadOfACheck() {
        ShortWork x = owedOf(1000, true);
        Expect.same("the firm", x.firmOwes(), 0);
        x.check(1);
        Expect.same("after the check of another week", x.firmOwes(), 0);
    }

    static void promise18WithAMail10PercentOf9() {
        owedWithMail(15, 9);
    }

    static void promise18WithAMail10PercentOf10() {
        owedWithMail(17, 11);
    }

    static void promise18WithAMail10PercentOf11() {
        owedWithMail(19, 12);
    }

    static void promise18WithAMail10PercentOf19() {
        owedWithMail(32, 20);
    }

    static void promise18WithAMail10PercentOf20() {
        owedWithMail(34, 22);
    }

    static void promise18WithAMail10PercentOf1() {
        owedWithMail(2, 1);
    }

    static void promise18WithAMail10PercentOfTheMost() {
        owedWithMail(100000, 66000);
    }

    private static void owedWithMail(int pay, int due) {
        ShortWork x = owedOf(pay, true);
        x.check(2);
        Expect.same("the firm", x.firmOwes(), due);
        Expect.same("the worker", x.owes(0), 0);
    }

    /** 10 percent of each, 5 and 5 of twice 59, not of their sum. */
    static void promise18WithMailsOfTwoWeeks() {
        ShortWork x = Start.empty();
        x.add(99, false);
        x.notice(0, 2, 3, 40);
        x.pass(4);
        for (int week = 2; week <= 3; week++) {
            x.door(0, week, 40);
            x.mail(0, week);
            x.check(week);
        }
        Expect.same("the firm", x.firmOwes(), 2 * (59 + 5));
    }

    /** As much as 512 calls can make the firm owe, nearly: far from a wrap-around. */
    static void promise18WithMailsOfAllForTheMost() {
        ShortWork x = Start.empty();
        x.setFloor(100);
        for (int worker = 0; worker < 8; worker++) {
            x.add(100000, false);
            x.notice(worker, 2, 200, 40);
        }
        x.pass(30);
        for (int week = 2; week < 27; week++) {
            for (int worker = 0; worker < 8; worker++) {
                x.door(worker, week, 80);
                x.mail(worker, week);
            }
            x.check(week);
        }
        Expect.same("the firm", x.firmOwes(), 25 * 8 * 110000);
    }

    static void promise18TheFloorIsOwedBackToo() {
        ShortWork x = Start.with(1);
        x.setFloor(100);
        x.notice(0, 2, 2, 40);
        x.pass(3);
        x.door(0, 2, 40);
        x.check(2);
        Expect.same("the firm", x.firmOwes(), 500);
        Expect.same("the worker", x.owes(0), 500);
    }

    static void promise19WorkerBelow0() {
        Refused.outOfBounds(Start::busy, x -> x.owes(-1));
        Refused.outOfBounds(Start::busy, x -> x.owes(LOW));
    }

    static void promise19WorkerAt0() {
        Expect.same("the worker", Start.busy().owes(0), 150);
    }

    static void promise19TheLastWorker() {
        Expect.same("the worker", Start.busy().owes(2), 0);
        ShortWork x = ofEight(1);
        x.check(2);
        Expect.same("the eighth", x.owes(7), 300);
        Expect.same("the seventh", x.owes(6), 0);
    }

    static void promise19WorkerOnePastTheLast() {
        Refused.outOfBounds(Start::busy, x -> x.owes(3));
        Refused.outOfBounds(Start::full, x -> x.owes(8));
        Refused.outOfBounds(Start::busy, x -> x.owes(HIGH));
    }

    static void promise19NothingAheadOfACheck() {
        Expect.same("the worker", owedOf(1000, false).owes(0), 0);
    }

    static void promise19WithoutAMailHalfOf1() {
        owedWithoutMail(2, 0, 1);
    }

    static void promise19WithoutAMailHalfOf2() {
        owedWithoutMail(4, 1, 1);
    }

    static void promise19WithoutAMailHalfOf3() {
        owedWithoutMail(5, 1, 2);
    }

    static void promise19WithoutAMailHalfOf10() {
        owedWithoutMail(17, 5, 5);
    }

    static void promise19WithoutAMailHalfOfTheMost() {
        owedWithoutMail(100000, 30000, 30000);
    }

    private static void owedWithoutMail(int pay, int ofWorker, int ofFirm) {
        ShortWork x = owedOf(pay, false);
        x.check(2);
        Expect.same("the worker", x.owes(0), ofWorker);
        Expect.same("the firm", x.firmOwes(), ofFirm);
    }

    /** Half of each, 29 and 29 of twice 59, not of their sum. */
    static void promise19WithoutMailsOfTwoWeeks() {
        ShortWork x = Start.empty();
        x.add(99, false);
        x.notice(0, 2, 3, 40);
        x.pass(4);
        for (int week = 2; week <= 3; week++) {
            x.door(0, week, 40);
            x.check(week);
        }
        Expect.same("the worker", x.owes(0), 29 + 29);
        Expect.same("the firm", x.firmOwes(), 30 + 30);
    }

    // ---- Promise 20: net

    static void promise20WorkerBelow0() {
        Refused.outOfBounds(Start::busy, x -> x.net(-1));
        Refused.outOfBounds(Start::busy, x -> x.net(LOW));
    }

    static void promise20WorkerAt0() {
        Expect.same("net", Start.busy().net(0), 2 * 1000 + 5 * 800 + 3 * 825 - 150);
    }

    static void promise20TheLastWorker() {
        Expect.same("net", Start.busy().net(2), 20);
        Expect.same("net of the eighth", ofEight(0).net(7), 2600);
    }

    static void promise20WorkerOnePastTheLast() {
        Refused.outOfBounds(Start::busy, x -> x.net(3));
        Refused.outOfBounds(Start::full, x -> x.net(8));
        Refused.outOfBounds(Start::busy, x -> x.net(HIGH));
    }

    static void promise20NoWeekHasPassed() {
        Expect.same("net", Start.with(1).net(0), 0);
    }

    static void promise20AddedWhenWeeksHavePassed() {
        ShortWork x = Start.ended();
        Expect.same("number", x.add(1000, false), 3);
        Expect.same("net", x.net(3), 0);
    }

    static void promise20AllWeeks() {
        ShortWork x = Start.empty();
        x.add(100000, false);
        Start.passTo(x, 201);
        Expect.same("net", x.net(0), 20100000);
    }

    static void promise20LessWhatTheWorkerOwes() {
        ShortWork x = owedOf(1000, false);
        Expect.same("ahead of the check", x.net(0), 2600);
        x.check(2);
        Expect.same("after the check", x.net(0), 2300);
    }

    static void promise20NotLessWhatTheFirmOwes() {
        ShortWork x = owedOf(1000, true);
        x.check(2);
        Expect.same("with a mail", x.net(0), 2600);
    }
}
