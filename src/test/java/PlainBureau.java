import java.util.ArrayList;
import java.util.HashMap;
import java.util.HashSet;
import java.util.List;
import java.util.Map;
import java.util.Set;

/**
 * The document once more, held another way than in ShortWork: it keeps what it was told (notices,
 * enrolments, doors, mails) and looks through it, so that a slip in one shows against the other.
 */
final class PlainBureau {
    private record Person(int pay, boolean children, int since) {
    }

    private record Notice(int worker, int from, int to, int hours) {
    }

    private record Course(int seats, int from, int to, int hours) {
    }

    private record Seat(int worker, int course) {
    }

    private record Pay(int cut, int firm, int fund) {
    }

    private static final Pay NONE = new Pay(0, 0, 0);

    private final List<Person> people = new ArrayList<>();
    private final List<Notice> notices = new ArrayList<>();
    private final List<Course> courses = new ArrayList<>();
    private final List<Seat> seats = new ArrayList<>();
    private final Map<String, Pay> pays = new HashMap<>();
    private final Map<String, Integer> doors = new HashMap<>();
    private final Set<String> mails = new HashSet<>();
    private final List<Integer> checks = new ArrayList<>();
    private int floor = 50;
    private int now = 0;

    int add(int pay, boolean children) {
        argument(pay < 1 || pay > 100000);
        state(people.size() == 8);
        people.add(new Person(pay, children, now));
        return people.size() - 1;
    }

    int notice(int worker, int from, int to, int hours) {
        bounds(worker, people.size());
        argument(from < 0 || from > 200 || to < from || to > 200 || hours < 0 || hours > 40);
        state(from - now < 2 || noticesOf(worker) == 30);
        notices.add(new Notice(worker, from, to, hours));
        return noticesOf(worker);
    }

    int addCourse(int room, int from, int to, int hours) {
        argument(room < 1 || room > 8 || from < 0 || from > 200 || to < from || to > 200
                || hours < 1 || hours > 40);
        state(courses.size() == 10);
        courses.add(new Course(room, from, to, hours));
        return courses.size() - 1;
    }

    int enrol(int worker, int course) {
        bounds(worker, people.size());
        bounds(course, courses.size());
        Course wanted = courses.get(course);
        state(left(course) == 0);
        for (Seat seat : seats) {
            Course other = courses.get(seat.course);
            state(seat.worker == worker
                    && Math.max(other.from, wanted.from) <= Math.min(other.to, wanted.to));
        }
        state(wanted.to < now);
        seats.add(new Seat(worker, course));
        return left(course);
    }

    int setFloor(int percent) {
        argument(percent < 0 || percent > 100);
        int before = floor;
        floor = percent;
        return before;
    }

    int workers() {
        return people.size();
    }

    int cut(int worker, int week) {
        bounds(worker, people.size());
        argument(week < 0 || week > 200);
        for (int i = notices.size() - 1; i >= 0; i--) {
            Notice told = notices.get(i);
            if (told.worker == worker && told.from <= week && week <= told.to) {
                return told.hours;
            }
        }
        return 0;
    }

    boolean isFilled(int worker, int week) {
        int cutHours = cut(worker, week);
        for (Seat seat : seats) {
            Course course = courses.get(seat.course);
            if (seat.worker == worker && course.from <= week && week <= course.to) {
                return 2 * course.hours >= cutHours;
            }
        }
        return false;
    }

    int pass(int weeks) {
        argument(weeks < 1 || weeks > 60);
        state(now + weeks > 201);
        int all = 0;
        for (int end = now + weeks; now < end; now++) {
            for (int worker = 0; worker < people.size(); worker++) {
                Pay pay = payNow(worker);
                pays.put(key(worker, now), pay);
                all += pay.fund;
            }
        }
        return all;
    }

    private Pay payNow(int worker) {
        Person person = people.get(worker);
        int cutHours = cut(worker, now);
        int firm = person.pay * (40 - cutHours) / 40;
        int lost = person.pay - firm;
        int before = cutWeeks(worker);
        boolean filled = isFilled(worker, now);
        int percent = 60;
        if (before >= 12) {
            percent = 70;
        }
        if (before >= 24) {
            percent = 80;
        }
        percent += person.children ? 7 : 0;
        percent += filled ? 5 : 0;
        percent -= !filled && before >= 12 ? 10 : 0;
        int fund = lost * percent / 100;
        int least = person.pay * floor / 100;
        if (firm + fund < least) {
            fund += least - (firm + fund);
        }
        return new Pay(cutHours, firm, Math.min(fund, person.pay - firm));
    }

    int week() {
        return now;
    }

    int paid(int worker, int week) {
        return payOf(worker, week).firm;
    }

    int madeUp(int worker, int week) {
        return payOf(worker, week).fund;
    }

    private Pay payOf(int worker, int week) {
        bounds(worker, people.size());
        passed(week);
        return pays.getOrDefault(key(worker, week), NONE);
    }

    int cutWeeks(int worker) {
        bounds(worker, people.size());
        int count = 0;
        for (int week = people.get(worker).since; week < now; week++) {
            if (pays.get(key(worker, week)).cut > 0) {
                count++;
            }
        }
        return count;
    }

    void door(int worker, int week, int hours) {
        bounds(worker, people.size());
        passed(week);
        argument(hours < 0 || hours > 80);
        state(checks.contains(week));
        doors.put(key(worker, week), hours);
    }

    void mail(int worker, int week) {
        bounds(worker, people.size());
        passed(week);
        state(checks.contains(week));
        mails.add(key(worker, week));
    }

    int check(int week) {
        passed(week);
        state(checks.contains(week));
        checks.add(week);
        int count = 0;
        for (int worker = 0; worker < people.size(); worker++) {
            count += owedBack(worker, week) > 0 ? 1 : 0;
        }
        return count;
    }

    private int owedBack(int worker, int week) {
        Pay pay = pays.getOrDefault(key(worker, week), NONE);
        Integer hours = doors.get(key(worker, week));
        return hours != null && hours - (40 - pay.cut) > 2 ? pay.fund : 0;
    }

    int firmOwes() {
        int all = 0;
        for (int week : checks) {
            for (int worker = 0; worker < people.size(); worker++) {
                int back = owedBack(worker, week);
                all += mails.contains(key(worker, week)) ? back * 11 / 10 : back - back / 2;
            }
        }
        return all;
    }

    int owes(int worker) {
        bounds(worker, people.size());
        int all = 0;
        for (int week : checks) {
            all += mails.contains(key(worker, week)) ? 0 : owedBack(worker, week) / 2;
        }
        return all;
    }

    int net(int worker) {
        bounds(worker, people.size());
        int all = -owes(worker);
        for (int week = 0; week < now; week++) {
            all += paid(worker, week) + madeUp(worker, week);
        }
        return all;
    }

    private int noticesOf(int worker) {
        int count = 0;
        for (Notice told : notices) {
            count += told.worker == worker ? 1 : 0;
        }
        return count;
    }

    private int left(int course) {
        int count = courses.get(course).seats;
        for (Seat seat : seats) {
            count -= seat.course == course ? 1 : 0;
        }
        return count;
    }

    private static String key(int worker, int week) {
        return worker + " in " + week;
    }

    private void passed(int week) {
        argument(week < 0 || week >= now);
    }

    private static void bounds(int number, int count) {
        if (number < 0 || number >= count) {
            throw new IndexOutOfBoundsException();
        }
    }

    private static void argument(boolean isWrong) {
        if (isWrong) {
            throw new IllegalArgumentException();
        }
    }

    private static void state(boolean isWrong) {
        if (isWrong) {
            throw new IllegalStateException();
        }
    }
}
