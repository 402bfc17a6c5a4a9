/** Bureaus from which tests start; each takes fewer than 150 of an object's 512 calls. */
final class Start {
    private Start() {
    }

    static ShortWork empty() {
        return new ShortWork();
    }

    /** Workers of pay 1000 without children. */
    static ShortWork with(int workers) {
        ShortWork x = new ShortWork();
        for (int i = 0; i < workers; i++) {
            x.add(1000, false);
        }
        return x;
    }

    /** One worker of pay 1000 without children, cut in the weeks 2 to 200. */
    static ShortWork cutBy(int hours) {
        ShortWork x = with(1);
        x.notice(0, 2, 200, hours);
        return x;
    }

    /** One worker without children who is cut by 40 in week 2, which was paid without a floor. */
    static ShortWork paidOnce(int pay) {
        ShortWork x = new ShortWork();
        x.setFloor(0);
        x.add(pay, false);
        x.notice(0, 2, 2, 40);
        x.pass(3);
        return x;
    }

    static void passTo(ShortWork x, int week) {
        int left = week - x.week();
        while (left > 0) {
            int step = Math.min(60, left);
            x.pass(step);
            left -= step;
        }
    }

    /** A bit of everything in week 10: 3 workers, 4 courses, and week 3 is checked. */
    static ShortWork busy() {
        ShortWork x = new ShortWork();
        x.add(1000, false);
        x.add(999, true);
        x.setFloor(55);
        x.notice(0, 2, 30, 20);
        x.notice(1, 3, 8, 40);
        x.notice(1, 15, 20, 7);
        x.addCourse(2, 4, 6, 10);
        x.addCourse(1, 9, 12, 3);
        x.addCourse(8, 11, 200, 40);
        x.addCourse(3, 0, 8, 5);
        x.enrol(0, 0);
        x.enrol(1, 1);
        x.pass(9);
        x.add(20, false);
        x.pass(1);
        x.door(0, 3, 40);
        x.door(1, 3, 3);
        x.mail(1, 3);
        x.check(3);
        x.door(0, 5, 30);
        x.door(1, 6, 9);
        x.mail(1, 6);
        return x;
    }

    /** The bureau of busy() with 8 workers, 10 courses, and 30 notices of worker 0. */
    static ShortWork full() {
        ShortWork x = busy();
        for (int worker = 3; worker < 8; worker++) {
            x.add(100 * worker, worker % 2 == 0);
        }
        for (int course = 4; course < 10; course++) {
            x.addCourse(1, 20 + course, 20 + course, course);
        }
        for (int notices = 1; notices < 30; notices++) {
            x.notice(0, 20 + notices, 20 + notices, notices);
        }
        return x;
    }

    /** The bureau of busy() in week 201, when the last week has passed. */
    static ShortWork ended() {
        ShortWork x = busy();
        passTo(x, 201);
        return x;
    }
}
