/** Each promise by ordinary inputs, the edges that the document names, and wrong inputs. */
public final class PromisesTest {
    private static final int LOW = Integer.MIN_VALUE;
    private static final int HIGH = Integer.MAX_VALUE;

    private PromisesTest() {
    }

    public static void main(String[] args) {
        newObject();
        add();
        notice();
        noticeAhead();
        noticeOverNotice();
        addCourse();
        enrol();
        enrolAgain();
        enrolByWeeks();
        setFloor();
        workers();
        cut();
        isFilled();
        pass();
        passToTheEnd();
        week();
        paid();
        madeUpByCut();
        madeUpBySteps();
        madeUpByStepsFilled();
        madeUpByFloor();
        madeUpRounded();
        cutWeeks();
        door();
        doorLastWord();
        mail();
        check();
        checkHours();
        checkMany();
        owedWithMail();
        owedWithoutMail();
        owedOfLittle();
        net();
        callsThatThrowChangeNothing();
        Expect.finish("PromisesTest");
    }

    /** A bureau with one worker of pay 1000 without children who is cut in weeks 2 to 200. */
    private static ShortWork cutBy(int hours) {
        ShortWork x = new ShortWork();
        x.add(1000, false);
        x.notice(0, 2, 200, hours);
        return x;
    }

    // ---- Promise 1

    private static void newObject() {
        ShortWork x = new ShortWork();
        Expect.same("P1 workers", x.workers(), 0);
        Expect.same("P1 week", x.week(), 0);
        Expect.same("P1 firmOwes", x.firmOwes(), 0);
        Expect.outOfBounds("P1 no worker", () -> x.net(0));
        Expect.same("P1 floor", x.setFloor(50), 50);
        x.add(1, false);
        Expect.outOfBounds("P1 no course", () -> x.enrol(0, 0));
        Expect.same("P1 other objects are apart", new ShortWork().workers(), 0);
    }

    // ---- Promise 2

    private static void add() {
        ShortWork x = new ShortWork();
        for (int pay : new int[] {0, -1, 100001, LOW, HIGH}) {
            Expect.badArgument("P2 pay " + pay, () -> x.add(pay, true));
        }
        Expect.same("P2 least pay", x.add(1, true), 0);
        Expect.same("P2 most pay", x.add(100000, false), 1);
        for (int i = 2; i < 8; i++) {
            Expect.same("P2 number", x.add(500, false), i);
        }
        Expect.badState("P2 a ninth", () -> x.add(500, false));
        Expect.badArgument("P2 a ninth with pay 0", () -> x.add(0, false));
        Expect.badArgument("P2 a ninth with pay above", () -> x.add(100001, false));
        Expect.same("P2 still 8", x.workers(), 8);
        Expect.same("P2 a new worker is not cut", x.cut(7, 0), 0);
        Expect.same("P2 a new worker has nothing", x.net(7), 0);
        x.pass(1);
        Expect.same("P2 pay of the first", x.paid(0, 0), 1);
        Expect.same("P2 pay of the second", x.paid(1, 0), 100000);
        Expect.same("P2 pay of the last", x.paid(7, 0), 500);
    }

    // ---- Promise 3

    private static void notice() {
        ShortWork x = new ShortWork();
        Expect.outOfBounds("P3 no worker yet", () -> x.notice(0, 2, 2, 1));
        x.add(1000, false);
        x.add(1000, false);
        for (int worker : new int[] {-1, 2, 8, LOW, HIGH}) {
            Expect.outOfBounds("P3 worker " + worker, () -> x.notice(worker, -1, -1, -1));
        }
        Expect.badArgument("P3 from below 0", () -> x.notice(0, -1, 5, 1));
        Expect.badArgument("P3 from above 200", () -> x.notice(0, 201, 201, 1));
        Expect.badArgument("P3 to above 200", () -> x.notice(0, 5, 201, 1));
        Expect.badArgument("P3 to highest", () -> x.notice(0, 5, HIGH, 1));
        Expect.badArgument("P3 to before from", () -> x.notice(0, 5, 4, 1));
        Expect.badArgument("P3 hours below 0", () -> x.notice(0, 5, 6, -1));
        Expect.badArgument("P3 hours above 40", () -> x.notice(0, 5, 6, 41));
        Expect.same("P3 first", x.notice(0, 2, 200, 40), 1);
        Expect.same("P3 last week alone", x.notice(0, 200, 200, 0), 2);
        Expect.same("P3 the other worker's own", x.notice(1, 5, 5, 7), 1);
        for (int i = 3; i <= 30; i++) {
            Expect.same("P3 how many", x.notice(0, 5, 6, i), i);
        }
        Expect.badState("P3 a 31st", () -> x.notice(0, 5, 6, 1));
        Expect.badArgument("P3 a 31st of 41 hours", () -> x.notice(0, 5, 6, 41));
        Expect.same("P3 the 31st changed nothing", x.cut(0, 5), 30);
        Expect.same("P3 the other goes on", x.notice(1, 5, 6, 1), 2);
    }

    private static void noticeAhead() {
        ShortWork x = new ShortWork();
        x.add(1000, false);
        Expect.badState("P3 week 0 at 0", () -> x.notice(0, 0, 9, 8));
        Expect.badState("P3 week 1 at 0", () -> x.notice(0, 1, 9, 8));
        Expect.badArgument("P3 too late and 41 hours", () -> x.notice(0, 1, 9, 41));
        Expect.same("P3 refused ones do not count", x.notice(0, 2, 9, 8), 1);
        x.pass(10);
        Expect.badState("P3 a passed week", () -> x.notice(0, 9, 20, 8));
        Expect.badState("P3 this week", () -> x.notice(0, 10, 20, 8));
        Expect.badState("P3 next week", () -> x.notice(0, 11, 20, 8));
        Expect.same("P3 two weeks ahead", x.notice(0, 12, 20, 8), 2);
        Expect.same("P3 nothing at 11", x.cut(0, 11), 0);
        Expect.same("P3 cut at 12", x.cut(0, 12), 8);
    }

    private static void noticeOverNotice() {
        ShortWork x = new ShortWork();
        x.add(1000, false);
        x.notice(0, 5, 15, 10);
        x.notice(0, 8, 10, 30);
        x.notice(0, 10, 12, 0);
        x.notice(0, 15, 16, 5);
        int[] due = {0, 10, 10, 10, 30, 30, 0, 0, 0, 10, 10, 5, 5, 0};
        for (int i = 0; i < due.length; i++) {
            Expect.same("P3 the last notice of week " + (i + 4), x.cut(0, i + 4), due[i]);
        }
    }

    // ---- Promise 4

    private static void addCourse() {
        ShortWork x = new ShortWork();
        int[][] wrong = {
            {0, 0, 0, 1}, {9, 0, 0, 1}, {LOW, 0, 0, 1}, {HIGH, 0, 0, 1},
            {1, -1, 0, 1}, {1, 201, 201, 1}, {1, LOW, 0, 1},
            {1, 5, 4, 1}, {1, 5, 201, 1}, {1, 5, HIGH, 1}, {1, 5, -1, 1},
            {1, 0, 0, 0}, {1, 0, 0, 41}, {1, 0, 0, LOW}, {1, 0, 0, HIGH}};
        for (int[] w : wrong) {
            Expect.badArgument("P4 " + java.util.Arrays.toString(w),
                    () -> x.addCourse(w[0], w[1], w[2], w[3]));
        }
        Expect.same("P4 least", x.addCourse(1, 0, 0, 1), 0);
        Expect.same("P4 most", x.addCourse(8, 0, 200, 40), 1);
        Expect.same("P4 last week", x.addCourse(8, 200, 200, 40), 2);
        x.pass(5);
        Expect.same("P4 a course of passed weeks", x.addCourse(1, 0, 4, 1), 3);
        for (int i = 4; i < 10; i++) {
            Expect.same("P4 number", x.addCourse(1, 0, 9, 2), i);
        }
        Expect.badState("P4 an 11th", () -> x.addCourse(1, 0, 9, 2));
        Expect.badArgument("P4 an 11th of 0 seats", () -> x.addCourse(0, 0, 9, 2));
        x.add(1000, false);
        Expect.same("P4 the tenth is there", x.enrol(0, 9), 0);
        Expect.outOfBounds("P4 the 11th is not", () -> x.enrol(0, 10));
    }

    // ---- Promise 5

    private static void enrol() {
        ShortWork x = new ShortWork();
        Expect.outOfBounds("P5 neither", () -> x.enrol(0, 0));
        x.addCourse(2, 5, 10, 8);
        Expect.outOfBounds("P5 no worker", () -> x.enrol(0, 0));
        for (int i = 0; i < 8; i++) {
            x.add(1000, false);
        }
        for (int number : new int[] {-1, 8, LOW, HIGH}) {
            Expect.outOfBounds("P5 worker " + number, () -> x.enrol(number, 0));
            Expect.outOfBounds("P5 course " + number, () -> x.enrol(0, number));
        }
        Expect.outOfBounds("P5 course 1", () -> x.enrol(0, 1));
        Expect.same("P5 a seat left", x.enrol(3, 0), 1);
        Expect.same("P5 no seat left", x.enrol(7, 0), 0);
        Expect.badState("P5 full", () -> x.enrol(0, 0));
        Expect.outOfBounds("P5 full, no such worker", () -> x.enrol(8, 0));
        Expect.same("P5 who is in", x.isFilled(3, 5), true);
        Expect.same("P5 who is in too", x.isFilled(7, 10), true);
        Expect.same("P5 who is not in", x.isFilled(0, 5), false);
    }

    private static void enrolAgain() {
        ShortWork x = new ShortWork();
        x.add(1000, false);
        x.add(1000, false);
        x.addCourse(8, 5, 10, 8);
        x.addCourse(8, 10, 12, 9);
        x.addCourse(8, 1, 5, 9);
        x.addCourse(8, 7, 8, 9);
        x.addCourse(8, 0, 200, 9);
        x.addCourse(8, 11, 12, 9);
        x.addCourse(8, 4, 4, 9);
        Expect.same("P5 once", x.enrol(0, 0), 7);
        Expect.badState("P5 twice", () -> x.enrol(0, 0));
        Expect.badState("P5 its last week in common", () -> x.enrol(0, 1));
        Expect.badState("P5 its first week in common", () -> x.enrol(0, 2));
        Expect.badState("P5 within it", () -> x.enrol(0, 3));
        Expect.badState("P5 around it", () -> x.enrol(0, 4));
        Expect.same("P5 the week after it", x.enrol(0, 5), 7);
        Expect.same("P5 the week before it", x.enrol(0, 6), 7);
        Expect.same("P5 refused ones took no seat", x.enrol(1, 4), 7);
        Expect.badState("P5 of the other worker", () -> x.enrol(1, 3));
        x.addCourse(8, 20, 21, 1);
        x.enrol(0, 7);
        Expect.badState("P5 a course of one hour twice", () -> x.enrol(0, 7));
    }

    private static void enrolByWeeks() {
        ShortWork x = new ShortWork();
        x.add(1000, false);
        x.addCourse(8, 0, 4, 8);
        x.addCourse(8, 0, 5, 8);
        x.addCourse(8, 7, 7, 8);
        x.pass(5);
        Expect.badState("P5 its last week has passed", () -> x.enrol(0, 0));
        Expect.same("P5 its last week goes on", x.enrol(0, 1), 7);
        Expect.same("P5 its first week comes", x.enrol(0, 2), 7);
        Expect.same("P5 what passed is filled as courses are now", x.isFilled(0, 0), true);
        x.addCourse(8, 200, 200, 8);
        for (int i = 0; i < 4; i++) {
            x.pass(i < 3 ? 60 : 15);
        }
        Expect.same("P5 at the last week", x.enrol(0, 3), 7);
        x.pass(1);
        x.add(1000, false);
        Expect.badState("P5 all has passed", () -> x.enrol(1, 3));
    }

    // ---- Promise 6

    private static void setFloor() {
        ShortWork x = cutBy(40);
        for (int percent : new int[] {-1, 101, LOW, HIGH}) {
            Expect.badArgument("P6 percent " + percent, () -> x.setFloor(percent));
        }
        Expect.same("P6 50 at first", x.setFloor(0), 50);
        Expect.same("P6 0 before", x.setFloor(100), 0);
        x.pass(3);
        Expect.same("P6 100 before", x.setFloor(75), 100);
        Expect.same("P6 what is paid stays", x.madeUp(0, 2), 1000);
        x.pass(1);
        Expect.same("P6 from now on", x.madeUp(0, 3), 750);
        Expect.same("P6 75 before", x.setFloor(75), 75);
    }

    // ---- Promise 7

    private static void workers() {
        ShortWork x = new ShortWork();
        for (int i = 0; i < 8; i++) {
            Expect.same("P7 workers", x.workers(), i);
            x.add(10, true);
        }
        x.addCourse(1, 0, 0, 1);
        x.pass(1);
        Expect.same("P7 all workers", x.workers(), 8);
    }

    // ---- Promise 8

    private static void cut() {
        ShortWork x = new ShortWork();
        Expect.outOfBounds("P8 nobody", () -> x.cut(0, 0));
        x.add(1000, false);
        x.add(1000, false);
        for (int week : new int[] {-1, 201, LOW, HIGH}) {
            Expect.badArgument("P8 week " + week, () -> x.cut(0, week));
            Expect.outOfBounds("P8 no worker, week " + week, () -> x.cut(2, week));
        }
        Expect.outOfBounds("P8 worker below", () -> x.cut(-1, 0));
        Expect.same("P8 no notice", x.cut(0, 0), 0);
        Expect.same("P8 no notice for the last week", x.cut(0, 200), 0);
        x.notice(1, 2, 4, 13);
        x.notice(1, 200, 200, 40);
        Expect.same("P8 the week before", x.cut(1, 1), 0);
        Expect.same("P8 the first week", x.cut(1, 2), 13);
        Expect.same("P8 a week between", x.cut(1, 3), 13);
        Expect.same("P8 the last week", x.cut(1, 4), 13);
        Expect.same("P8 the week after", x.cut(1, 5), 0);
        Expect.same("P8 week 200", x.cut(1, 200), 40);
        Expect.same("P8 the other worker", x.cut(0, 3), 0);
        x.pass(10);
        Expect.same("P8 a passed week", x.cut(1, 3), 13);
    }

    // ---- Promise 9

    private static void isFilled() {
        ShortWork x = new ShortWork();
        Expect.outOfBounds("P9 nobody", () -> x.isFilled(0, 0));
        x.add(1000, false);
        for (int week : new int[] {-1, 201, LOW, HIGH}) {
            Expect.badArgument("P9 week " + week, () -> x.isFilled(0, week));
            Expect.outOfBounds("P9 no worker, week " + week, () -> x.isFilled(1, week));
        }
        Expect.same("P9 neither cut nor course", x.isFilled(0, 0), false);
        x.addCourse(1, 3, 8, 10);
        x.addCourse(1, 200, 200, 1);
        x.notice(0, 4, 4, 19);
        x.notice(0, 5, 5, 20);
        x.notice(0, 6, 6, 21);
        x.notice(0, 7, 7, 40);
        x.notice(0, 9, 9, 1);
        Expect.same("P9 not in the course", x.isFilled(0, 3), false);
        x.enrol(0, 0);
        x.enrol(0, 1);
        Expect.same("P9 before the course", x.isFilled(0, 2), false);
        Expect.same("P9 a course and no cut", x.isFilled(0, 3), true);
        Expect.same("P9 twice is more", x.isFilled(0, 4), true);
        Expect.same("P9 twice is just it", x.isFilled(0, 5), true);
        Expect.same("P9 twice is less", x.isFilled(0, 6), false);
        Expect.same("P9 twice is far less", x.isFilled(0, 7), false);
        Expect.same("P9 the last week", x.isFilled(0, 8), true);
        Expect.same("P9 a cut and no course", x.isFilled(0, 9), false);
        Expect.same("P9 week 200", x.isFilled(0, 200), true);
        x.notice(0, 8, 8, 30);
        Expect.same("P9 by notices as they are now", x.isFilled(0, 8), false);
    }

    // ---- Promise 10

    private static void pass() {
        ShortWork x = new ShortWork();
        for (int weeks : new int[] {0, -1, 61, LOW, HIGH}) {
            Expect.badArgument("P10 weeks " + weeks, () -> x.pass(weeks));
        }
        Expect.same("P10 nobody", x.pass(1), 0);
        x.add(1000, false);
        x.add(2000, true);
        x.notice(0, 4, 6, 20);
        x.notice(1, 5, 5, 10);
        Expect.same("P10 no cut", x.pass(3), 0);
        Expect.same("P10 one cut", x.pass(1), 300);
        Expect.same("P10 both, and the rest", x.pass(60), 600 + 335);
        Expect.same("P10 week", x.week(), 65);
    }

    private static void passToTheEnd() {
        ShortWork x = cutBy(40);
        for (int i = 0; i < 3; i++) {
            x.pass(60);
        }
        Expect.badState("P10 up to 202", () -> x.pass(22));
        Expect.badState("P10 up to 240", () -> x.pass(60));
        Expect.badArgument("P10 61", () -> x.pass(61));
        Expect.same("P10 nothing passed", x.week(), 180);
        Expect.same("P10 up to 201", x.pass(21), 21 * 700);
        Expect.badState("P10 beyond 201", () -> x.pass(1));
        Expect.badArgument("P10 none beyond 201", () -> x.pass(0));
        Expect.same("P10 the last week is paid", x.madeUp(0, 200), 700);
        x.door(0, 200, 3);
        Expect.same("P10 the last week is checked", x.check(200), 1);
    }

    // ---- Promise 11

    private static void week() {
        ShortWork x = new ShortWork();
        Expect.same("P11 at first", x.week(), 0);
        x.pass(1);
        Expect.same("P11 one", x.week(), 1);
        x.pass(60);
        Expect.same("P11 sixty more", x.week(), 61);
        Expect.badArgument("P11 none", () -> x.pass(0));
        Expect.same("P11 as it was", x.week(), 61);
    }

    // ---- Promise 12

    private static void paid() {
        ShortWork x = new ShortWork();
        Expect.outOfBounds("P12 nobody", () -> x.paid(0, 0));
        x.add(999, false);
        Expect.badArgument("P12 week 0 goes on", () -> x.paid(0, 0));
        x.notice(0, 2, 2, 1);
        x.notice(0, 3, 3, 40);
        x.notice(0, 4, 4, 39);
        x.pass(3);
        x.add(100000, true);
        x.pass(2);
        for (int week : new int[] {-1, 5, 6, 200, 201, LOW, HIGH}) {
            Expect.badArgument("P12 week " + week, () -> x.paid(0, week));
            Expect.outOfBounds("P12 no worker, week " + week, () -> x.paid(2, week));
        }
        Expect.outOfBounds("P12 worker below", () -> x.paid(-1, 0));
        Expect.same("P12 full pay", x.paid(0, 0), 999);
        Expect.same("P12 cut by 1", x.paid(0, 2), 974);
        Expect.same("P12 cut by 40", x.paid(0, 3), 0);
        Expect.same("P12 cut by 39", x.paid(0, 4), 24);
        Expect.same("P12 ahead of the worker", x.paid(1, 0), 0);
        Expect.same("P12 the last week ahead", x.paid(1, 2), 0);
        Expect.same("P12 the first week", x.paid(1, 3), 100000);
    }

    // ---- Promise 13

    private static void madeUpByCut() {
        ShortWork x = new ShortWork();
        Expect.outOfBounds("P13 nobody", () -> x.madeUp(0, 0));
        x.add(1000, false);
        x.add(1000, true);
        Expect.badArgument("P13 week 0 goes on", () -> x.madeUp(0, 0));
        x.notice(0, 2, 2, 20);
        x.notice(1, 2, 2, 20);
        x.notice(0, 3, 3, 4);
        x.notice(1, 3, 3, 4);
        x.addCourse(2, 3, 3, 2);
        x.enrol(0, 0);
        x.enrol(1, 0);
        x.pass(4);
        x.add(1000, true);
        for (int week : new int[] {-1, 4, 5, 200, 201, LOW, HIGH}) {
            Expect.badArgument("P13 week " + week, () -> x.madeUp(0, week));
            Expect.outOfBounds("P13 no worker, week " + week, () -> x.madeUp(3, week));
        }
        Expect.same("P13 no cut", x.madeUp(0, 1), 0);
        Expect.same("P13 60 percent", x.madeUp(0, 2), 300);
        Expect.same("P13 67 with children", x.madeUp(1, 2), 335);
        Expect.same("P13 65 filled", x.madeUp(0, 3), 65);
        Expect.same("P13 72 filled with children", x.madeUp(1, 3), 72);
        Expect.same("P13 ahead of the worker", x.madeUp(2, 2), 0);
    }

    private static void madeUpBySteps() {
        ShortWork x = cutBy(40);
        x.add(1000, true);
        x.notice(1, 2, 200, 40);
        x.pass(40);
        Expect.same("P13 the 12th week", x.madeUp(0, 13), 600);
        Expect.same("P13 the 13th week, 70 less 10", x.madeUp(0, 14), 600);
        Expect.same("P13 the 24th week, 70 less 10", x.madeUp(0, 25), 600);
        Expect.same("P13 the 25th week, 80 less 10", x.madeUp(0, 26), 700);
        Expect.same("P13 the 12th week with children", x.madeUp(1, 13), 670);
        Expect.same("P13 the 13th week with children", x.madeUp(1, 14), 670);
        Expect.same("P13 the 25th week with children", x.madeUp(1, 26), 770);
    }

    private static void madeUpByStepsFilled() {
        ShortWork x = cutBy(40);
        x.add(1000, true);
        x.notice(1, 2, 19, 40);
        x.notice(1, 25, 200, 40);
        x.addCourse(2, 0, 200, 20);
        x.enrol(0, 0);
        x.enrol(1, 0);
        Expect.same("P13 all the weeks", x.pass(20) + x.pass(20),
                12 * 650 + 12 * 750 + 14 * 850 + 12 * 720 + 12 * 820 + 9 * 920);
        Expect.same("P13 the 12th week, 65", x.madeUp(0, 13), 650);
        Expect.same("P13 the 13th week, 75", x.madeUp(0, 14), 750);
        Expect.same("P13 the 24th week, 75", x.madeUp(0, 25), 750);
        Expect.same("P13 the 25th week, 85", x.madeUp(0, 26), 850);
        Expect.same("P13 with children, 12th", x.madeUp(1, 13), 720);
        Expect.same("P13 with children, 13th", x.madeUp(1, 14), 820);
        Expect.same("P13 a pause counts no week", x.madeUp(1, 30), 820);
        Expect.same("P13 with children, 25th", x.madeUp(1, 31), 920);
    }

    private static void madeUpByFloor() {
        ShortWork x = cutBy(40);
        x.setFloor(60);
        Expect.same("P13 just the floor", x.pass(3), 600);
        x.setFloor(61);
        Expect.same("P13 below the floor", x.pass(1), 610);
        x.setFloor(100);
        Expect.same("P13 the full pay", x.pass(1), 1000);
        x.notice(0, 7, 7, 10);
        x.notice(0, 8, 8, 0);
        x.setFloor(90);
        Expect.same("P13 a firm's 750 and 150 reach 900", x.pass(3), 900 + 900 + 150);
        Expect.same("P13 no loss, nothing made up", x.pass(1), 0);
        x.setFloor(0);
        x.notice(0, 11, 11, 10);
        Expect.same("P13 no floor", x.pass(3), 600 + 600 + 150);
    }

    private static void madeUpRounded() {
        ShortWork x = new ShortWork();
        x.add(999, true);
        x.add(1, false);
        x.add(3, false);
        for (int i = 0; i < 3; i++) {
            x.notice(i, 2, 2, 1);
            x.notice(i, 3, 3, 40);
        }
        x.setFloor(99);
        x.pass(4);
        Expect.same("P13 67 percent of 25 is 16, the floor 989", x.madeUp(0, 2), 16);
        Expect.same("P13 67 percent of 999, the floor 989", x.madeUp(0, 3), 989);
        Expect.same("P13 60 percent of 1, the floor 0", x.madeUp(1, 3), 0);
        Expect.same("P13 60 percent of 3, the floor 2", x.madeUp(2, 3), 2);
        x.setFloor(50);
        x.notice(0, 6, 6, 40);
        x.notice(2, 6, 6, 40);
        x.pass(3);
        Expect.same("P13 669.33", x.madeUp(0, 6), 669);
        Expect.same("P13 1.8", x.madeUp(2, 6), 1);
    }

    // ---- Promise 14

    private static void cutWeeks() {
        ShortWork x = new ShortWork();
        Expect.outOfBounds("P14 nobody", () -> x.cutWeeks(0));
        x.add(1000, false);
        x.add(1000, false);
        x.notice(0, 3, 6, 1);
        x.notice(0, 5, 5, 0);
        for (int worker : new int[] {-1, 2, LOW, HIGH}) {
            Expect.outOfBounds("P14 worker " + worker, () -> x.cutWeeks(worker));
        }
        x.pass(3);
        Expect.same("P14 weeks that come do not count", x.cutWeeks(0), 0);
        x.pass(1);
        Expect.same("P14 the first", x.cutWeeks(0), 1);
        x.pass(2);
        Expect.same("P14 no cut, no count", x.cutWeeks(0), 2);
        x.pass(10);
        Expect.same("P14 all", x.cutWeeks(0), 3);
        Expect.same("P14 the other worker", x.cutWeeks(1), 0);
    }

    // ---- Promise 15

    private static void door() {
        ShortWork x = new ShortWork();
        Expect.outOfBounds("P15 nobody", () -> x.door(0, 0, 0));
        x.add(1000, false);
        Expect.badArgument("P15 week 0 goes on", () -> x.door(0, 0, 0));
        x.pass(3);
        for (int week : new int[] {-1, 3, 4, 200, 201, LOW, HIGH}) {
            Expect.badArgument("P15 week " + week, () -> x.door(0, week, 0));
            Expect.outOfBounds("P15 no worker, week " + week, () -> x.door(1, week, 0));
        }
        for (int hours : new int[] {-1, 81, LOW, HIGH}) {
            Expect.badArgument("P15 hours " + hours, () -> x.door(0, 1, hours));
            Expect.outOfBounds("P15 no worker, hours " + hours, () -> x.door(-1, 1, hours));
        }
        x.door(0, 0, 0);
        x.door(0, 2, 80);
        x.check(1);
        Expect.badState("P15 checked", () -> x.door(0, 1, 5));
        Expect.badArgument("P15 checked, hours 81", () -> x.door(0, 1, 81));
        Expect.outOfBounds("P15 checked, no worker", () -> x.door(1, 1, 5));
        x.add(1000, false);
        x.door(1, 0, 80);
        Expect.same("P15 nothing was made up to who came later", x.check(0), 0);
    }

    private static void doorLastWord() {
        ShortWork x = cutBy(40);
        x.pass(6);
        x.door(0, 2, 80);
        x.door(0, 2, 2);
        Expect.same("P15 the last word is little", x.check(2), 0);
        x.door(0, 3, 2);
        x.door(0, 3, 3);
        Expect.same("P15 the last word is much", x.check(3), 1);
        x.door(0, 4, 80);
        x.door(0, 4, 0);
        Expect.same("P15 the last word is 0", x.check(4), 0);
        Expect.same("P15 another week's word", x.check(5), 0);
    }

    // ---- Promise 16

    private static void mail() {
        ShortWork x = new ShortWork();
        Expect.outOfBounds("P16 nobody", () -> x.mail(0, 0));
        x.add(1000, false);
        Expect.badArgument("P16 week 0 goes on", () -> x.mail(0, 0));
        x.notice(0, 2, 200, 40);
        x.pass(4);
        for (int week : new int[] {-1, 4, 5, 200, 201, LOW, HIGH}) {
            Expect.badArgument("P16 week " + week, () -> x.mail(0, week));
            Expect.outOfBounds("P16 no worker, week " + week, () -> x.mail(1, week));
        }
        x.check(1);
        Expect.badState("P16 checked", () -> x.mail(0, 1));
        Expect.outOfBounds("P16 checked, no worker", () -> x.mail(-1, 1));
        x.mail(0, 2);
        x.mail(0, 2);
        Expect.same("P16 a mail without doors", x.check(2), 0);
        Expect.same("P16 owes nothing", x.firmOwes(), 0);
        x.door(0, 3, 40);
        x.check(3);
        Expect.same("P16 another week's mail", x.owes(0), 300);
    }

    // ---- Promise 17

    private static void check() {
        ShortWork x = new ShortWork();
        for (int week : new int[] {-1, 0, 1, 200, 201, LOW, HIGH}) {
            Expect.badArgument("P17 week " + week, () -> x.check(week));
        }
        x.pass(2);
        Expect.badArgument("P17 week 2 goes on", () -> x.check(2));
        Expect.badArgument("P17 week -1", () -> x.check(-1));
        Expect.same("P17 nobody", x.check(1), 0);
        Expect.badState("P17 checked", () -> x.check(1));
        Expect.same("P17 an earlier week", x.check(0), 0);
        Expect.badState("P17 checked too", () -> x.check(0));
    }

    private static void checkHours() {
        ShortWork x = cutBy(15);
        x.add(1000, false);
        x.pass(8);
        x.door(0, 2, 27);
        Expect.same("P17 just 2 hours more", x.check(2), 0);
        x.door(0, 3, 28);
        Expect.same("P17 3 hours more", x.check(3), 1);
        x.door(1, 4, 80);
        x.door(0, 1, 80);
        Expect.same("P17 nothing made up", x.check(4), 0);
        Expect.same("P17 nothing made up ahead", x.check(1), 0);
        Expect.same("P17 no doors", x.check(5), 0);
        x.notice(0, 10, 200, 0);
        x.door(0, 6, 28);
        Expect.same("P17 the cut as it was paid", x.check(6), 1);
    }

    private static void checkMany() {
        ShortWork x = new ShortWork();
        for (int i = 0; i < 8; i++) {
            x.add(1000, false);
            x.notice(i, 2, 2, 40);
        }
        x.pass(3);
        for (int i = 0; i < 8; i++) {
            x.door(i, 2, i);
        }
        x.mail(7, 2);
        Expect.same("P17 how many", x.check(2), 5);
        for (int i = 0; i < 8; i++) {
            Expect.same("P17 owes of " + i, x.owes(i), i >= 3 && i < 7 ? 300 : 0);
        }
        Expect.same("P17 the firm", x.firmOwes(), 4 * 300 + 660);
    }

    // ---- Promises 18 and 19

    private static void owedWithMail() {
        ShortWork x = new ShortWork();
        x.add(999, false);
        x.notice(0, 2, 3, 40);
        x.pass(4);
        x.door(0, 2, 3);
        x.mail(0, 2);
        Expect.same("P18 nothing ahead of a check", x.firmOwes(), 0);
        x.check(2);
        Expect.same("P18 599 and 59", x.firmOwes(), 658);
        Expect.same("P19 the worker owes nothing", x.owes(0), 0);
        x.mail(0, 3);
        x.door(0, 3, 80);
        x.check(3);
        Expect.same("P18 twice 599 and 59", x.firmOwes(), 2 * 658);
    }

    private static void owedWithoutMail() {
        ShortWork x = new ShortWork();
        Expect.outOfBounds("P19 nobody", () -> x.owes(0));
        x.add(999, false);
        x.add(1000, false);
        for (int worker : new int[] {-1, 2, 8, LOW, HIGH}) {
            Expect.outOfBounds("P19 worker " + worker, () -> x.owes(worker));
        }
        x.notice(0, 2, 3, 40);
        x.notice(1, 3, 3, 20);
        x.pass(4);
        x.door(0, 2, 3);
        x.mail(1, 2);
        x.check(2);
        Expect.same("P19 half of 599", x.owes(0), 299);
        Expect.same("P18 the rest of 599", x.firmOwes(), 300);
        x.door(0, 3, 3);
        x.door(1, 3, 23);
        Expect.same("P17 both", x.check(3), 2);
        Expect.same("P19 twice 299", x.owes(0), 598);
        Expect.same("P19 half of 300", x.owes(1), 150);
        Expect.same("P18 all rests", x.firmOwes(), 300 + 300 + 150);
    }

    private static void owedOfLittle() {
        ShortWork x = new ShortWork();
        x.add(2, false);
        x.notice(0, 2, 3, 40);
        x.pass(4);
        x.door(0, 2, 3);
        Expect.same("P17 1 is something", x.check(2), 1);
        Expect.same("P19 half of 1", x.owes(0), 0);
        Expect.same("P18 the rest of 1", x.firmOwes(), 1);
        x.door(0, 3, 3);
        x.mail(0, 3);
        x.check(3);
        Expect.same("P18 10 percent of 1", x.firmOwes(), 2);
    }

    // ---- Promise 20

    private static void net() {
        ShortWork x = new ShortWork();
        Expect.outOfBounds("P20 nobody", () -> x.net(0));
        x.add(1000, false);
        x.pass(1);
        x.add(2000, false);
        for (int worker : new int[] {-1, 2, 8, LOW, HIGH}) {
            Expect.outOfBounds("P20 worker " + worker, () -> x.net(worker));
        }
        Expect.same("P20 one week", x.net(0), 1000);
        Expect.same("P20 no week", x.net(1), 0);
        x.notice(0, 3, 3, 20);
        x.pass(3);
        Expect.same("P20 with what was made up", x.net(0), 3800);
        Expect.same("P20 the other worker", x.net(1), 6000);
        x.door(0, 3, 40);
        x.check(3);
        Expect.same("P20 less what is owed", x.net(0), 3650);
        ShortWork y = new ShortWork();
        y.add(100000, false);
        for (int i = 0; i < 4; i++) {
            y.pass(i < 3 ? 60 : 21);
        }
        Expect.same("P20 the most", y.net(0), 20100000);
    }

    // ---- Terms: a call that throws changes nothing

    private static void callsThatThrowChangeNothing() {
        ShortWork x = cutBy(20);
        x.addCourse(1, 4, 9, 10);
        x.enrol(0, 0);
        x.pass(5);
        x.door(0, 2, 30);
        x.check(2);
        Expect.badState("late notice", () -> x.notice(0, 6, 9, 1));
        Expect.badArgument("notice of 41 hours", () -> x.notice(0, 9, 9, 41));
        Expect.badState("full course", () -> x.enrol(0, 0));
        Expect.badArgument("floor of 101", () -> x.setFloor(101));
        Expect.badState("door of a checked week", () -> x.door(0, 2, 80));
        Expect.badArgument("door of 81 hours", () -> x.door(0, 3, 81));
        Expect.badState("mail of a checked week", () -> x.mail(0, 2));
        Expect.badState("check of a checked week", () -> x.check(2));
        Expect.badArgument("check of this week", () -> x.check(5));
        Expect.badArgument("pass of 61", () -> x.pass(61));
        Expect.same("floor as before", x.setFloor(50), 50);
        Expect.same("week as before", x.week(), 5);
        Expect.same("cut as before", x.cut(0, 9), 20);
        Expect.same("notices as before", x.notice(0, 200, 200, 0), 2);
        Expect.same("owes as before", x.owes(0), 150);
        Expect.same("firm owes as before", x.firmOwes(), 150);
        Expect.same("net as before", x.net(0), 2000 + 800 + 800 + 825 - 150);
        Expect.same("door as before", x.check(3), 0);
        x.pass(1);
        Expect.same("week 5 may be checked", x.check(5), 0);
    }
}
