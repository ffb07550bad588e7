import java.util.ArrayList;
import java.util.List;

/**
 * "Where several errors can apply, the order of the @return line is the order of the checks. NONE is no error; it is
 * returned only if no error applies. A call that returns an error or NONE changes nothing." Each call with all its
 * arguments at, and just beyond, their bounds, together in all ways, in clubs that are empty, half full, full and at
 * the last half day.
 */
public final class RefusalsTest {
    private static final int UNKNOWN = BallastClub.UNKNOWN;
    private static final int BAD_VALUE = BallastClub.BAD_VALUE;
    private static final int FULL = BallastClub.FULL;
    private static final int NOT_POSSIBLE = BallastClub.NOT_POSSIBLE;
    private static final int NONE = BallastClub.NONE;
    private static final int NO_ERROR = 0;

    /** A call with its arguments. */
    private interface Call {
        int on(NotedClub club, int... arguments);
    }

    /** The error of arguments of which each one is good; it may ask a club of the situation. */
    private interface Later {
        int error(NotedClub club, int... arguments);
    }

    /** The numbers that are tried as an argument, and the error of those outside the bounds. */
    private record Argument(int least, int greatest, int error, int... numbers) {
    }

    private static final Later NEVER = (club, arguments) -> NO_ERROR;

    private final Check check;
    private final Situation situation;
    private final Argument machine;
    private final Argument member;
    private final Argument booking;
    private final Argument move;
    private final Argument halfDay;
    private final List<Situation.Idle> idle = new ArrayList<>();
    private int errors;
    private int others;

    /** The counts are those that the story must lead to: count(0) to count(8). */
    private RefusalsTest(Check check, String name, Situation.Story story, int... counts) {
        this.check = check;
        check.part(name);
        situation = new Situation(name, story);
        NotedClub club = situation.club();
        for (int what = 0; what < counts.length; what++) {
            check.due("count(" + what + ")", club.count(what), counts[what]);
        }
        int present = club.count(0);
        machine = row(club.count(1));
        member = row(club.count(2));
        booking = row(club.count(3));
        move = row(club.count(8));
        halfDay = new Argument(present, 199, UNKNOWN, Integer.MIN_VALUE, -1, present - 1, present, 199, 200,
                Integer.MAX_VALUE);
    }

    public static void main(String[] args) {
        Check check = new Check("RefusalsTest");
        Situation.Call read = club -> club.readWinds();
        Situation.Call restore = club -> club.restore();
        new RefusalsTest(check, "an empty club", club -> { }, 0, 0, 0, 0, 0, 0, 0, 0, 0)
                .plain("readWinds()", read, -100).plain("restore()", restore, NONE)
                .plain("undo()", club -> club.undo(), NONE).run();
        new RefusalsTest(check, "a club in use", RefusalsTest::tellInUse, 3, 2, 2, 12, 9, 1, 1, 1, 2).run();
        new RefusalsTest(check, "a full club", RefusalsTest::tellFull, 1, 5, 8, 30, 29, 0, 0, 1, 10)
                .plain("readWinds()", read, -160).plain("type('1')", club -> club.type('1'), FULL).run();
        new RefusalsTest(check, "a club at half day 199", RefusalsTest::tellLate, 199, 2, 1, 3, 2, 1, 0, 0, 1)
                .plain("readWinds()", read, -104).plain("restore()", restore, NONE).run();
        check.finish();
    }

    // ---- the situations

    /** Bookings in each of the states, one that its machine bears no more, open moves, a text and a snapshot. */
    private static void tellInUse(NotedClub club) {
        club.addMachine(30, 0);
        club.addMachine(200, 12);
        club.addMember();
        club.addMember();
        club.setWind(2, 60);
        for (int halfDay = 2; halfDay <= 11; halfDay++) {
            club.book(0, 0, halfDay, 1, 2);
        }
        club.book(1, 1, 0, 2000, 2);
        club.book(1, 1, 9, 1090, 20);
        club.setWind(2, 70);
        club.keep();
        club.order(1, 1, 0, 3, 1);
        club.order(0, 0, 1, 12, 7);
        club.order(0, 1, 0, 1, 199);
        club.pass(3);
        club.cancel(1);
        Clubs.type(club, "4:44");
    }

    private static void tellFull(NotedClub club) {
        for (int machine = 0; machine < 5; machine++) {
            club.addMachine(machine % 2 == 0 ? 200 : 10, 12 - 3 * machine);
        }
        for (int member = 0; member < 8; member++) {
            club.addMember();
        }
        for (int booking = 0; booking < 30; booking++) {
            club.book(booking % 8, booking % 5, 1 + booking / 5, 40 + booking, 20);
        }
        club.keep();
        for (int move = 0; move < 9; move++) {
            club.order(7 - move % 8, 0, 1, 12, 5 + move);
        }
        club.cancel(29);
        club.order(0, 4, 3, 12, 199);
        club.pass(1);
        Clubs.type(club, "3:33;4:44;5:55;6:66;7:77;8:88;9:99;10:10;11:11;12:12;13:0;14");
    }

    private static void tellLate(NotedClub club) {
        club.addMachine(50, 5);
        club.addMachine(50, 5);
        club.addMember();
        club.book(0, 0, 199, 1, 2);
        club.book(0, 1, 199, 250, 20);
        club.book(0, 1, 198, 1, 2);
        club.order(0, 1, 0, 1, 199);
        Clubs.passTo(club, 199);
        club.setWind(199, 9);
        Clubs.type(club, "199:");
    }

    // ---- arguments

    private static Argument row(int rows) {
        return new Argument(0, rows - 1, UNKNOWN, Integer.MIN_VALUE, -1, 0, rows - 1, rows, Integer.MAX_VALUE);
    }

    private static Argument value(int least, int greatest) {
        return new Argument(least, greatest, BAD_VALUE, Integer.MIN_VALUE, least - 1, least, greatest, greatest + 1,
                Integer.MAX_VALUE);
    }

    private static Argument anyHalfDay() {
        return new Argument(0, 199, UNKNOWN, Integer.MIN_VALUE, -1, 0, 199, 200, Integer.MAX_VALUE);
    }

    // ---- the calls

    private void run() {
        checkActs();
        checkBookings();
        checkQuestions();
        situation.checkIdle(check, idle);
        check.holds("too few calls are refused: " + errors, errors > 5000);
        check.holds("too few calls are answered: " + others, others > 20);
    }

    private void checkActs() {
        act("addMachine", (club, a) -> club.addMachine(a[0], a[1]),
                (club, a) -> club.count(1) == 5 ? FULL : NO_ERROR, value(10, 200), value(0, 12));
        act("setWind", (club, a) -> club.setWind(a[0], a[1]),
                (club, a) -> club.wind(a[0]) == a[1] ? NONE : NO_ERROR, halfDay, value(0, 99));
        act("order", (club, a) -> club.order(a[0], a[1], a[2], a[3], a[4]), (club, a) -> {
            if (a[1] == a[2]) {
                return BAD_VALUE;
            }
            return club.count(8) == 10 ? FULL : NO_ERROR;
        }, member, machine, machine, value(1, 12), halfDay);
        act("takeBack", (club, a) -> club.takeBack(a[0]), NEVER, move);
        act("pass", (club, a) -> club.pass(a[0]),
                (club, a) -> club.count(0) + a[0] > 199 ? NOT_POSSIBLE : NO_ERROR, value(1, 20));
        act("addMember", (club, a) -> club.addMember(), (club, a) -> club.count(2) == 8 ? FULL : NO_ERROR);
    }

    private void checkBookings() {
        act("book", (club, a) -> club.book(a[0], a[1], a[2], a[3], a[4]), (club, a) -> {
            if (a[3] > club.bears(a[1], a[4]) || club.bookedAt(a[1], a[2]) != NONE) {
                return NOT_POSSIBLE;
            }
            return club.count(3) == 30 ? FULL : NO_ERROR;
        }, member, machine, halfDay, value(1, 2000), value(2, 60));
        Argument each = eachBooking();
        act("cancel", (club, a) -> club.cancel(a[0]),
                (club, a) -> club.booking(a[0], 5) == 0 ? NO_ERROR : NOT_POSSIBLE, each);
        act("swap", (club, a) -> club.swap(a[0], a[1]), (club, a) -> {
            if (a[0] == a[1]) {
                return BAD_VALUE;
            }
            boolean booked = club.booking(a[0], 5) == 0 && club.booking(a[1], 5) == 0;
            return booked && bears(club, a[0], a[1]) && bears(club, a[1], a[0]) ? NO_ERROR : NOT_POSSIBLE;
        }, each, each);
        ask("fate", (club, a) -> club.fate(a[0]),
                (club, a) -> club.booking(a[0], 5) == 0 ? NO_ERROR : NOT_POSSIBLE, each);
    }

    private Argument eachBooking() {
        int rows = booking.greatest + 1;
        int[] numbers = new int[rows + 4];
        for (int row = 0; row <= rows; row++) {
            numbers[row] = row;
        }
        numbers[rows + 1] = -1;
        numbers[rows + 2] = Integer.MIN_VALUE;
        numbers[rows + 3] = Integer.MAX_VALUE;
        return new Argument(0, rows - 1, UNKNOWN, numbers);
    }

    /** Whether the machine of one booking bears the load of the other one. */
    private static boolean bears(NotedClub club, int one, int other) {
        return club.booking(other, 3) <= club.bears(club.booking(one, 1), club.booking(other, 4));
    }

    /** A call without arguments that is refused. */
    private RefusalsTest plain(String name, Situation.Call call, int due) {
        add(name, call, due);
        return this;
    }

    private void checkQuestions() {
        Argument load = value(1, 2000);
        Argument radius = value(2, 60);
        ask("bears", (club, a) -> club.bears(a[0], a[1]), NEVER, machine, radius);
        ask("willBear", (club, a) -> club.willBear(a[0], a[1], a[2]), NEVER, machine, radius, halfDay);
        ask("windLimit", (club, a) -> club.windLimit(a[0], a[1]), NEVER, load, radius);
        ask("machine", (club, a) -> club.machine(a[0], a[1]), NEVER, machine, value(0, 6));
        ask("member", (club, a) -> club.member(a[0], a[1]), NEVER, member, value(0, 6));
        ask("booking", (club, a) -> club.booking(a[0], a[1]), NEVER, booking, value(0, 8));
        ask("move", (club, a) -> club.move(a[0], a[1]), NEVER, move, value(0, 4));
        ask("bookedAt", (club, a) -> club.bookedAt(a[0], a[1]), NEVER, machine, anyHalfDay());
        ask("machineFor", (club, a) -> club.machineFor(a[0], a[1], a[2]), NEVER, halfDay, load, radius);
        ask("wind", (club, a) -> club.wind(a[0]), NEVER, anyHalfDay());
        ask("count", (club, a) -> club.count(a[0]), NEVER, value(0, 16));
    }

    // ---- all ways to put the arguments together

    /** An act changes nothing only if it is refused. */
    private void act(String name, Call call, Later later, Argument... arguments) {
        each(name, call, later, false, arguments, new int[arguments.length], 0);
    }

    /** A question changes nothing, whatever it answers. */
    private void ask(String name, Call call, Later later, Argument... arguments) {
        each(name, call, later, true, arguments, new int[arguments.length], 0);
    }

    private void each(String name, Call call, Later later, boolean isQuestion, Argument[] arguments, int[] chosen,
            int next) {
        if (next < arguments.length) {
            for (int number : arguments[next].numbers) {
                chosen[next] = number;
                each(name, call, later, isQuestion, arguments, chosen, next + 1);
            }
            return;
        }
        int[] numbers = chosen.clone();
        int error = error(later, arguments, numbers);
        String words = words(name, numbers);
        if (error != NO_ERROR) {
            errors++;
            add(words, club -> call.on(club, numbers), error);
        } else if (isQuestion) {
            others++;
            add(words, club -> call.on(club, numbers), null);
        } else {
            others++;
            checkAccepted(words, call, numbers);
        }
    }

    private int error(Later later, Argument[] arguments, int[] numbers) {
        for (int error : new int[] {UNKNOWN, BAD_VALUE}) {
            for (int index = 0; index < numbers.length; index++) {
                Argument one = arguments[index];
                if (one.error == error && (numbers[index] < one.least || numbers[index] > one.greatest)) {
                    return error;
                }
            }
        }
        return later.error(situation.club(), numbers);
    }

    private static String words(String name, int[] numbers) {
        StringBuilder words = new StringBuilder(name).append('(');
        for (int index = 0; index < numbers.length; index++) {
            words.append(index == 0 ? "" : ", ").append(numbers[index]);
        }
        return words.append(')').toString();
    }

    private void add(String name, Situation.Call call, Integer due) {
        idle.add(new Situation.Idle(name, call, due));
    }

    private void checkAccepted(String words, Call call, int[] numbers) {
        NotedClub club = situation.club();
        int states = club.count(15);
        int answer = call.on(club, numbers);
        check.holds(words + " answered " + answer, answer >= 0);
        check.due("states behind " + words, club.count(15), Math.min(states + 1, 4));
    }
}
