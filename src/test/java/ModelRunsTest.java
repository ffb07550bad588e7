/** Clubs with all their 512 calls, each answered as by the model, and all that is told the same every few calls. */
public final class ModelRunsTest {
    private static final int RUNS = 800;
    /** Behind these, too few calls are left to ask aside. */
    private static final int COMPARED_CALLS = 400;
    private static final int STEPS_BETWEEN = 6;
    /** More than the calls that the longest text takes. */
    private static final int TEXT_CALLS = 120;

    private final Check check;
    private final Numbers numbers;
    private final NotedClub club = new NotedClub();
    private final ModelClub model = new ModelClub();
    /** Small clubs and short spans of time bring bookings and moves closer together. */
    private final int machines;
    private final int span;
    private final int busy;
    /** Some clubs begin late, so that the last half days are reached. */
    private final int late;

    private ModelRunsTest(Check check, int run) {
        this.check = check;
        numbers = new Numbers(run);
        machines = numbers.once(3) ? 1 : numbers.from(1, 5);
        span = numbers.once(3) ? 200 : numbers.from(2, numbers.once(2) ? 11 : 20);
        busy = numbers.from(1, 6);
        late = numbers.once(3) ? numbers.from(1, 15) : 0;
    }

    public static void main(String[] args) {
        Check check = new Check("ModelRunsTest");
        for (int run = 0; run < RUNS && check.isRight(); run++) {
            check.part("run " + run);
            new ModelRunsTest(check, run).run();
        }
        check.finish();
    }

    private void run() {
        for (int step = 0; club.calls() < NotedClub.MOST_CALLS && check.isRight(); step++) {
            step(step);
            if (step % STEPS_BETWEEN == 0 && club.calls() <= COMPARED_CALLS) {
                compare();
            }
        }
    }

    private void step(int step) {
        int kind = numbers.below(100);
        if (step < 12 + late) {
            start(step);
        } else if (kind < 60) {
            act(kind);
        } else if (kind < 62 && club.calls() + TEXT_CALLS < NotedClub.MOST_CALLS) {
            text();
        } else if (kind < 72) {
            past(kind);
        } else {
            ask(kind);
        }
    }

    private void start(int step) {
        if (step < machines) {
            addMachine();
        } else if (step < 12) {
            check.due("addMember()", club.addMember(), model.addMember());
        } else {
            int halfDays = numbers.from(10, 20);
            check.due("pass(" + halfDays + ")", club.pass(halfDays), model.pass(halfDays));
        }
    }

    private void addMachine() {
        int strength = numbers.from(9, numbers.once(2) ? 40 : 201);
        int blocks = numbers.from(-1, 13);
        check.due("addMachine(" + strength + ", " + blocks + ")", club.addMachine(strength, blocks),
                model.addMachine(strength, blocks));
    }

    private int machine() {
        return numbers.once(20) ? numbers.from(-2, 6) : numbers.below(machines);
    }

    private int member() {
        return numbers.once(20) ? numbers.from(-2, 9) : numbers.below(6);
    }

    private int halfDay() {
        if (numbers.once(20)) {
            return numbers.from(-2, 202);
        }
        return model.count(0) + numbers.below(span) - (numbers.once(10) ? 2 : 0);
    }

    private int booking() {
        return numbers.once(20) ? numbers.from(-1, 31) : numbers.below(Math.max(1, model.count(3)));
    }

    private int load(int machine, int radius) {
        if (numbers.once(15)) {
            return numbers.from(-1, 2002);
        }
        int borne = Math.max(model.bears(machine, radius), 1);
        return numbers.once(2) ? borne + numbers.from(-8, 1) : numbers.from(1, borne);
    }

    private int radius() {
        return numbers.once(20) ? numbers.from(0, 62) : numbers.from(2, 60);
    }

    private void act(int kind) {
        if (kind < 4 * busy) {
            int member = member();
            int machine = machine();
            int halfDay = halfDay();
            int radius = radius();
            int load = load(machine, radius);
            check.due("book(" + member + ", " + machine + ", " + halfDay + ", " + load + ", " + radius + ")",
                    club.book(member, machine, halfDay, load, radius),
                    model.book(member, machine, halfDay, load, radius));
        } else if (kind < 33) {
            int member = member();
            int from = machine();
            int to = machine();
            int blocks = numbers.once(15) ? numbers.from(-1, 14) : numbers.from(1, 5);
            int halfDay = halfDay();
            check.due("order(" + member + ", " + from + ", " + to + ", " + blocks + ", " + halfDay + ")",
                    club.order(member, from, to, blocks, halfDay), model.order(member, from, to, blocks, halfDay));
        } else if (kind < 43) {
            int halfDay = halfDay();
            int wind = numbers.once(12) ? numbers.from(-1, 101) : numbers.from(10, numbers.once(2) ? 60 : 99);
            check.due("setWind(" + halfDay + ", " + wind + ")", club.setWind(halfDay, wind),
                    model.setWind(halfDay, wind));
        } else if (kind < 48) {
            int halfDays = numbers.once(8) ? numbers.from(-1, 22) : numbers.from(1, 3);
            check.due("pass(" + halfDays + ")", club.pass(halfDays), model.pass(halfDays));
        } else if (kind < 54) {
            int booking = booking();
            int other = booking();
            check.due("swap(" + booking + ", " + other + ")", club.swap(booking, other), model.swap(booking, other));
        } else {
            smallAct(kind);
        }
    }

    private void smallAct(int kind) {
        if (kind < 57) {
            int booking = booking();
            check.due("cancel(" + booking + ")", club.cancel(booking), model.cancel(booking));
        } else if (kind < 58) {
            addMachine();
        } else if (kind < 59) {
            int move = numbers.from(-1, 10);
            check.due("takeBack(" + move + ")", club.takeBack(move), model.takeBack(move));
        } else {
            check.due("addMember()", club.addMember(), model.addMember());
        }
    }

    /** A few winds that are as they must be, sometimes with one sign of them changed, put in or left out. */
    private void text() {
        check.due("clearText()", club.clearText(), model.clearText());
        StringBuilder text = new StringBuilder();
        int winds = numbers.once(4) ? numbers.from(1, 16) : numbers.from(1, 4);
        for (int wind = 0; wind < winds; wind++) {
            text.append(wind == 0 ? "" : ";").append(Math.max(0, halfDay())).append(':').append(numbers.below(100));
        }
        int place = numbers.below(text.length());
        if (numbers.once(4)) {
            text.setCharAt(place, "0123456789:;x ".charAt(numbers.below(14)));
        } else if (numbers.once(4)) {
            text.insert(place, "0123456789:;x ".charAt(numbers.below(14)));
        } else if (numbers.once(4)) {
            text.deleteCharAt(place);
        }
        for (int index = 0; index < text.length(); index++) {
            check.due("type", club.type(text.charAt(index)), model.type(text.charAt(index)));
        }
        check.due("readWinds() of \"" + text + "\"", club.readWinds(), model.readWinds());
    }

    private void past(int kind) {
        if (kind < 69) {
            check.due("undo()", club.undo(), model.undo());
        } else if (kind < 71) {
            check.due("keep()", club.keep(), model.keep());
        } else {
            check.due("restore()", club.restore(), model.restore());
        }
    }

    private void ask(int kind) {
        int machine = machine();
        int radius = radius();
        int halfDay = halfDay();
        int load = load(machine, radius);
        if (kind < 78) {
            check.due("willBear(" + machine + ", " + radius + ", " + halfDay + ")",
                    club.willBear(machine, radius, halfDay), model.willBear(machine, radius, halfDay));
        } else if (kind < 83) {
            check.due("machineFor(" + halfDay + ", " + load + ", " + radius + ")",
                    club.machineFor(halfDay, load, radius), model.machineFor(halfDay, load, radius));
        } else if (kind < 88) {
            check.due("windLimit(" + load + ", " + radius + ")", club.windLimit(load, radius),
                    model.windLimit(load, radius));
        } else if (kind < 94) {
            check.due("bears(" + machine + ", " + radius + ")", club.bears(machine, radius),
                    model.bears(machine, radius));
        } else {
            check.due("bookedAt(" + machine + ", " + halfDay + ")", club.bookedAt(machine, halfDay),
                    model.bookedAt(machine, halfDay));
        }
    }

    private void compare() {
        for (int what = -1; what <= 17; what++) {
            check.due("count(" + what + ")", club.aside().count(what), model.count(what));
        }
        for (int what = -1; what <= 9; what++) {
            for (int number = -1; number <= 8; number++) {
                check.due("machine(" + number + ", " + what + ")", club.aside().machine(number, what),
                        model.machine(number, what));
                check.due("member(" + number + ", " + what + ")", club.aside().member(number, what),
                        model.member(number, what));
            }
            for (int move = -1; move <= 10; move++) {
                check.due("move(" + move + ", " + what + ")", club.aside().move(move, what), model.move(move, what));
            }
            for (int booking = -1; booking <= 30; booking++) {
                check.due("booking(" + booking + ", " + what + ")", club.aside().booking(booking, what),
                        model.booking(booking, what));
            }
        }
        for (int booking = -1; booking <= 30; booking++) {
            check.due("fate(" + booking + ")", club.aside().fate(booking), model.fate(booking));
        }
        for (int halfDay = -1; halfDay <= 200; halfDay++) {
            check.due("wind(" + halfDay + ")", club.aside().wind(halfDay), model.wind(halfDay));
        }
    }
}
