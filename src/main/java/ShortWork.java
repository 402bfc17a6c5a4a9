/**
 * A bureau for short work: hours that are cut by notices ahead of time, pay that a fund makes up
 * by steps and children, courses that fill the hours, doors and mails that show work, checks, and
 * money that is paid back by who knew.
 */
public final class ShortWork {
    private static final int MOST_WORKERS = 8;
    private static final int MOST_NOTICES = 30;
    private static final int MOST_COURSES = 10;
    private static final int MOST_SEATS = 8;
    private static final int MOST_PAY = 100000;
    private static final int MOST_WEEKS_AT_ONCE = 60;
    private static final int MOST_DOOR_HOURS = 80;
    private static final int LAST_WEEK = 200;
    private static final int WEEKS = LAST_WEEK + 1;
    private static final int WEEKS_AHEAD = 2;
    private static final int FULL_HOURS = 40;
    private static final int FIRST_FLOOR = 50;

    private final Worker[] staff;
    private final Course[] courses;
    private final boolean[] checked;
    private int workerCount;
    private int courseCount;
    private int currentWeek;
    private int floorPercent;
    private int firmDebt;

    public ShortWork() {
        staff = new Worker[MOST_WORKERS];
        courses = new Course[MOST_COURSES];
        checked = new boolean[WEEKS];
        floorPercent = FIRST_FLOOR;
    }

    // ---- workers, notices and courses

    /** Adds a worker and returns the worker's number. */
    public int add(int pay, boolean hasChildren)
            throws IllegalArgumentException, IllegalStateException {
        requireArgument(isWithin(pay, 1, MOST_PAY));
        requireState(workerCount < MOST_WORKERS);
        int number = workerCount;
        staff[number] = new Worker(pay, hasChildren);
        workerCount = number + 1;
        return number;
    }

    /** Tells a notice and returns how many notices the worker has had. */
    public int notice(int worker, int from, int to, int hours)
            throws IndexOutOfBoundsException, IllegalArgumentException, IllegalStateException {
        Worker told = workerAt(worker);
        requireArgument(isSpan(from, to) && isWithin(hours, 0, FULL_HOURS));
        requireState(from >= currentWeek + WEEKS_AHEAD && told.noticeCount < MOST_NOTICES);
        told.takeNotice(from, to, hours);
        return told.noticeCount;
    }

    /** Adds a course and returns its number. */
    public int addCourse(int seats, int from, int to, int hours)
            throws IllegalArgumentException, IllegalStateException {
        requireArgument(isWithin(seats, 1, MOST_SEATS) && isSpan(from, to)
                && isWithin(hours, 1, FULL_HOURS));
        requireState(courseCount < MOST_COURSES);
        int number = courseCount;
        courses[number] = new Course(seats, from, to, hours);
        courseCount = number + 1;
        return number;
    }

    /** Lets a worker go to a course and returns how many seats are left. */
    public int enrol(int worker, int course)
            throws IndexOutOfBoundsException, IllegalStateException {
        Worker pupil = workerAt(worker);
        Course wanted = courseAt(course);
        requireState(wanted.seatsLeft > 0 && wanted.to >= currentWeek
                && pupil.hasNoCourseFrom(wanted.from, wanted.to));
        pupil.goTo(wanted);
        wanted.seatsLeft--;
        return wanted.seatsLeft;
    }

    /** Sets the floor for weeks that are paid from now on and returns the floor before. */
    public int setFloor(int percent) throws IllegalArgumentException {
        requireArgument(isWithin(percent, 0, 100));
        int before = floorPercent;
        floorPercent = percent;
        return before;
    }

    /** Returns the number of workers. */
    public int workers() {
        return workerCount;
    }

    /** Returns by how many hours a worker is cut in a week. */
    public int cut(int worker, int week)
            throws IndexOutOfBoundsException, IllegalArgumentException {
        Worker asked = workerAt(worker);
        requireArgument(isWithin(week, 0, LAST_WEEK));
        return asked.cutHours[week];
    }

    /** Tells whether a course fills a worker's cut hours in a week. */
    public boolean isFilled(int worker, int week)
            throws IndexOutOfBoundsException, IllegalArgumentException {
        Worker asked = workerAt(worker);
        requireArgument(isWithin(week, 0, LAST_WEEK));
        return asked.hasFilled(week);
    }

    // ---- weeks

    /** Lets weeks pass, pays them, and returns what the fund makes up in them. */
    public int pass(int weeks) throws IllegalArgumentException, IllegalStateException {
        requireArgument(isWithin(weeks, 1, MOST_WEEKS_AT_ONCE));
        requireState(currentWeek + weeks <= WEEKS);
        int fromFund = 0;
        for (int i = 0; i < weeks; i++) {
            fromFund += payCurrentWeek();
            currentWeek++;
        }
        return fromFund;
    }

    /** Returns the week that goes on. */
    public int week() {
        return currentWeek;
    }

    /** Returns what the firm paid a worker for a week. */
    public int paid(int worker, int week)
            throws IndexOutOfBoundsException, IllegalArgumentException {
        Worker asked = workerAt(worker);
        requireArgument(hasPassed(week));
        return asked.firmPay[week];
    }

    /** Returns what the fund made up to a worker for a week. */
    public int madeUp(int worker, int week)
            throws IndexOutOfBoundsException, IllegalArgumentException {
        Worker asked = workerAt(worker);
        requireArgument(hasPassed(week));
        return asked.fundPay[week];
    }

    /** Returns how many weeks with a cut were paid for a worker. */
    public int cutWeeks(int worker) throws IndexOutOfBoundsException {
        return workerAt(worker).cutWeekCount;
    }

    // ---- checks

    /** Tells how many hours doors show a worker in a passed week; the last word counts. */
    public void door(int worker, int week, int hours)
            throws IndexOutOfBoundsException, IllegalArgumentException, IllegalStateException {
        Worker seen = workerAt(worker);
        requireArgument(hasPassed(week) && isWithin(hours, 0, MOST_DOOR_HOURS));
        requireState(!checked[week]);
        seen.doorHours[week] = hours;
    }

    /** Tells a mail by which the firm asked a worker to work in a passed week. */
    public void mail(int worker, int week)
            throws IndexOutOfBoundsException, IllegalArgumentException, IllegalStateException {
        Worker asked = workerAt(worker);
        requireArgument(hasPassed(week));
        requireState(!checked[week]);
        asked.mailed[week] = true;
    }

    /** Checks a passed week and returns for how many workers something is owed back by that. */
    public int check(int week) throws IllegalArgumentException, IllegalStateException {
        requireArgument(hasPassed(week));
        requireState(!checked[week]);
        checked[week] = true;
        int found = 0;
        for (Worker looked : staff) {
            if (looked != null && looked.hasWorkedTooMuch(week)) {
                chargeBack(looked, week);
                found++;
            }
        }
        return found;
    }

    /** Returns what the firm owes. */
    public int firmOwes() {
        return firmDebt;
    }

    /** Returns what a worker owes. */
    public int owes(int worker) throws IndexOutOfBoundsException {
        return workerAt(worker).debt;
    }

    /** Returns a worker's pay and what was made up, less what the worker owes. */
    public int net(int worker) throws IndexOutOfBoundsException {
        Worker asked = workerAt(worker);
        return asked.received - asked.debt;
    }

    // ---- parts

    private int payCurrentWeek() {
        int fromFund = 0;
        for (Worker due : staff) {
            if (due != null) {
                fromFund += due.payFor(currentWeek, floorPercent);
            }
        }
        return fromFund;
    }

    private void chargeBack(Worker looked, int week) {
        int back = looked.fundPay[week];
        if (looked.mailed[week]) {
            firmDebt += back + back * 10 / 100;
        } else {
            int half = back / 2;
            looked.debt += half;
            firmDebt += back - half;
        }
    }

    private Worker workerAt(int number) {
        Worker found = isWithin(number, 0, workerCount - 1) ? staff[number] : null;
        if (found == null) {
            throw new IndexOutOfBoundsException();
        }
        return found;
    }

    private Course courseAt(int number) {
        Course found = isWithin(number, 0, courseCount - 1) ? courses[number] : null;
        if (found == null) {
            throw new IndexOutOfBoundsException();
        }
        return found;
    }

    private boolean hasPassed(int week) {
        return isWithin(week, 0, currentWeek - 1);
    }

    private static boolean isSpan(int from, int to) {
        return isWithin(from, 0, LAST_WEEK) && isWithin(to, from, LAST_WEEK);
    }

    private static boolean isWithin(int value, int least, int most) {
        return value >= least && value <= most;
    }

    private static void requireArgument(boolean holds) {
        if (!holds) {
            throw new IllegalArgumentException();
        }
    }

    private static void requireState(boolean holds) {
        if (!holds) {
            throw new IllegalStateException();
        }
    }

    /** A worker with a row of weeks for each thing that is known of them. */
    private static final class Worker {
        private static final int CHILDREN_PERCENT = 7;
        private static final int FILLED_PERCENT = 5;
        private static final int UNFILLED_PERCENT = 10;
        private static final int FIRST_STEP = 12;
        private static final int SECOND_STEP = 24;
        private static final int FREE_DOOR_HOURS = 2;

        private final int fullPay;
        private final boolean hasChildren;
        // Notices come in the order in which they are told and never touch a week that was paid,
        // so the last one may write over the others: a passed week keeps the cut it was paid by.
        private final int[] cutHours;
        // Courses of one worker have no week in common, and each takes an hour or more:
        // 0 stands for no course.
        private final int[] courseHours;
        private final int[] firmPay;
        private final int[] fundPay;
        // 0 stands for no word of the doors too: 0 hours are never too many.
        private final int[] doorHours;
        private final boolean[] mailed;
        private int noticeCount;
        private int cutWeekCount;
        private int received;
        private int debt;

        Worker(int fullPay, boolean hasChildren) {
            this.fullPay = fullPay;
            this.hasChildren = hasChildren;
            cutHours = new int[WEEKS];
            courseHours = new int[WEEKS];
            firmPay = new int[WEEKS];
            fundPay = new int[WEEKS];
            doorHours = new int[WEEKS];
            mailed = new boolean[WEEKS];
        }

        void takeNotice(int from, int to, int hours) {
            for (int week = from; week <= to; week++) {
                cutHours[week] = hours;
            }
            noticeCount++;
        }

        boolean hasNoCourseFrom(int from, int to) {
            for (int week = from; week <= to; week++) {
                if (courseHours[week] > 0) {
                    return false;
                }
            }
            return true;
        }

        void goTo(Course course) {
            for (int week = course.from; week <= course.to; week++) {
                courseHours[week] = course.hours;
            }
        }

        boolean hasFilled(int week) {
            return courseHours[week] > 0 && 2 * courseHours[week] >= cutHours[week];
        }

        /** Pays a week and returns what the fund makes up in it. */
        int payFor(int week, int floorPercent) {
            int fromFirm = fullPay * (FULL_HOURS - cutHours[week]) / FULL_HOURS;
            int fromFund = (fullPay - fromFirm) * madeUpPercent(week) / 100;
            int floor = fullPay * floorPercent / 100;
            // No percentage of the loss reaches 100 and no floor is above the full pay,
            // so nobody gets more than that.
            fromFund = Math.max(fromFund, floor - fromFirm);
            firmPay[week] = fromFirm;
            fundPay[week] = fromFund;
            received += fromFirm + fromFund;
            if (cutHours[week] > 0) {
                cutWeekCount++;
            }
            return fromFund;
        }

        private int madeUpPercent(int week) {
            int percent = stepPercent();
            if (hasChildren) {
                percent += CHILDREN_PERCENT;
            }
            if (hasFilled(week)) {
                percent += FILLED_PERCENT;
            } else if (cutWeekCount >= FIRST_STEP) {
                percent -= UNFILLED_PERCENT;
            }
            return percent;
        }

        private int stepPercent() {
            if (cutWeekCount >= SECOND_STEP) {
                return 80;
            }
            return cutWeekCount >= FIRST_STEP ? 70 : 60;
        }

        boolean hasWorkedTooMuch(int week) {
            int allowed = FULL_HOURS - cutHours[week] + FREE_DOOR_HOURS;
            return doorHours[week] > allowed && fundPay[week] > 0;
        }
    }

    /** A course that a worker can go to. */
    private static final class Course {
        private final int from;
        private final int to;
        private final int hours;
        private int seatsLeft;

        Course(int seats, int from, int to, int hours) {
            this.from = from;
            this.to = to;
            this.hours = hours;
            seatsLeft = seats;
        }
    }
}
