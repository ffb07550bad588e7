import java.util.ArrayDeque;
import java.util.ArrayList;
import java.util.Deque;
import java.util.List;
import java.util.regex.Matcher;
import java.util.regex.Pattern;

/**
 * The document's words once more, in the plainest form that the Java library allows: objects, lists, a copy of the
 * whole state for each act, and the texts by a regular expression. ModelRunsTest compares BallastClub with it.
 */
final class ModelClub {
    private static final int UNKNOWN = -1;
    private static final int BAD_VALUE = -2;
    private static final int FULL = -3;
    private static final int NOT_POSSIBLE = -4;
    private static final int NONE = -5;

    private static final String WIND = "(0|[1-9][0-9]{0,2}):(0|[1-9][0-9]?)";
    private static final Pattern WINDS = Pattern.compile(WIND + "(;" + WIND + ")*");

    private static final class Machine {
        int strength;
        int blocks;
        int noted = NONE;
    }

    private static final class Member {
        int paid;
        int caused;
    }

    private static final class Booking {
        int member;
        int machine;
        int halfDay;
        int load;
        int radius;
        int state;
        int accepted;
        int standbys;
        /** As fate() tells it, of the latest half day that passed for it. */
        int latest = NONE;
    }

    private static final class Move {
        int member;
        int from;
        int to;
        int blocks;
        int halfDay;
    }

    private static final class State {
        final List<Machine> machines = new ArrayList<>();
        final List<Member> members = new ArrayList<>();
        final List<Booking> bookings = new ArrayList<>();
        final List<Move> moves = new ArrayList<>();
        final int[] winds = new int[200];
        int present;
        int movesDone;
        int movesFailed;
        int caused;
        int uncaused;
        int paid;

        State copy() {
            State copy = new State();
            for (Machine machine : machines) {
                Machine one = new Machine();
                one.strength = machine.strength;
                one.blocks = machine.blocks;
                one.noted = machine.noted;
                copy.machines.add(one);
            }
            for (Member member : members) {
                Member one = new Member();
                one.paid = member.paid;
                one.caused = member.caused;
                copy.members.add(one);
            }
            for (Booking booking : bookings) {
                copy.bookings.add(copyOf(booking));
            }
            copy.moves.addAll(moves);
            System.arraycopy(winds, 0, copy.winds, 0, 200);
            copy.present = present;
            copy.movesDone = movesDone;
            copy.movesFailed = movesFailed;
            copy.caused = caused;
            copy.uncaused = uncaused;
            copy.paid = paid;
            return copy;
        }

        private static Booking copyOf(Booking booking) {
            Booking one = new Booking();
            one.member = booking.member;
            one.machine = booking.machine;
            one.halfDay = booking.halfDay;
            one.load = booking.load;
            one.radius = booking.radius;
            one.state = booking.state;
            one.accepted = booking.accepted;
            one.standbys = booking.standbys;
            one.latest = booking.latest;
            return one;
        }

        boolean isComing(int halfDay) {
            return halfDay >= present && halfDay <= 199;
        }

        int borne(Machine machine, int radius) {
            return Math.min((machine.strength * 100 + machine.blocks * 150) / radius, machine.strength * 10);
        }

        int bookedAt(int machine, int halfDay) {
            for (Booking booking : bookings) {
                if (booking.state == 0 && booking.machine == machine && booking.halfDay == halfDay) {
                    return bookings.indexOf(booking);
                }
            }
            return NONE;
        }

        void pay(int member, int coins) {
            members.get(member).paid += coins;
            paid += coins;
        }

        void passMoves() {
            List<Move> due = new ArrayList<>();
            for (Move move : moves) {
                if (move.halfDay == present) {
                    due.add(move);
                }
            }
            moves.removeAll(due);
            for (Move move : due) {
                Machine from = machines.get(move.from);
                Machine to = machines.get(move.to);
                if (from.blocks >= move.blocks && to.blocks + move.blocks <= 12) {
                    from.blocks -= move.blocks;
                    to.blocks += move.blocks;
                    from.noted = move.member;
                    movesDone++;
                    pay(move.member, 5 + 2 * move.blocks);
                } else {
                    movesFailed++;
                    pay(move.member, 5);
                }
            }
        }

        int passOne() {
            passMoves();
            int lifts = 0;
            for (Booking booking : bookings) {
                if (booking.state != 0 || booking.halfDay != present) {
                    continue;
                }
                Machine machine = machines.get(booking.machine);
                int limit = limit(booking.load, booking.radius);
                if (booking.load > borne(machine, booking.radius)) {
                    standBy(booking, machine.noted);
                } else if (winds[present] > limit) {
                    standBy(booking, booking.accepted > limit ? booking.member : NONE);
                } else {
                    booking.state = 1;
                    booking.latest = 0;
                    pay(booking.member, 30);
                    lifts++;
                }
            }
            present++;
            return lifts;
        }

        private void standBy(Booking booking, int causer) {
            booking.standbys++;
            booking.latest = causer == NONE ? 2 : 1;
            if (causer == NONE) {
                uncaused++;
            } else {
                caused++;
                members.get(causer).caused++;
                pay(causer, 8);
            }
            for (int next = present + 1; next <= present + 9 && next <= 199; next++) {
                if (bookedAt(booking.machine, next) == NONE) {
                    booking.halfDay = next;
                    booking.accepted = winds[next];
                    return;
                }
            }
            booking.state = 2;
        }
    }

    private State now = new State();
    private State kept;
    private final Deque<State> history = new ArrayDeque<>();
    private String text = "";

    private static int limit(int load, int radius) {
        return Math.max(10, 60 - load / 20 - radius / 2);
    }

    private void record() {
        history.addLast(now.copy());
        if (history.size() > 4) {
            history.removeFirst();
        }
    }

    private static boolean has(List<?> list, int number) {
        return number >= 0 && number < list.size();
    }

    int addMachine(int strength, int blocks) {
        if (strength < 10 || strength > 200 || blocks < 0 || blocks > 12) {
            return BAD_VALUE;
        }
        if (now.machines.size() == 5) {
            return FULL;
        }
        record();
        Machine machine = new Machine();
        machine.strength = strength;
        machine.blocks = blocks;
        now.machines.add(machine);
        return now.machines.size() - 1;
    }

    int addMember() {
        if (now.members.size() == 8) {
            return FULL;
        }
        record();
        now.members.add(new Member());
        return now.members.size() - 1;
    }

    int setWind(int halfDay, int wind) {
        if (!now.isComing(halfDay)) {
            return UNKNOWN;
        }
        if (wind < 0 || wind > 99) {
            return BAD_VALUE;
        }
        int before = now.winds[halfDay];
        if (before == wind) {
            return NONE;
        }
        record();
        now.winds[halfDay] = wind;
        return before;
    }

    private static boolean isLift(int load, int radius) {
        return load >= 1 && load <= 2000 && radius >= 2 && radius <= 60;
    }

    int book(int member, int machine, int halfDay, int load, int radius) {
        if (!has(now.members, member) || !has(now.machines, machine) || !now.isComing(halfDay)) {
            return UNKNOWN;
        }
        if (!isLift(load, radius)) {
            return BAD_VALUE;
        }
        if (load > now.borne(now.machines.get(machine), radius) || now.bookedAt(machine, halfDay) != NONE) {
            return NOT_POSSIBLE;
        }
        if (now.bookings.size() == 30) {
            return FULL;
        }
        record();
        Booking booking = new Booking();
        booking.member = member;
        booking.machine = machine;
        booking.halfDay = halfDay;
        booking.load = load;
        booking.radius = radius;
        booking.accepted = now.winds[halfDay];
        now.bookings.add(booking);
        return now.bookings.size() - 1;
    }

    int cancel(int booking) {
        if (!has(now.bookings, booking)) {
            return UNKNOWN;
        }
        if (now.bookings.get(booking).state != 0) {
            return NOT_POSSIBLE;
        }
        record();
        Booking one = now.bookings.get(booking);
        one.state = 3;
        if (one.halfDay != now.present) {
            return 0;
        }
        now.pay(one.member, 4);
        return 4;
    }

    int swap(int booking, int other) {
        if (!has(now.bookings, booking) || !has(now.bookings, other)) {
            return UNKNOWN;
        }
        if (booking == other) {
            return BAD_VALUE;
        }
        Booking a = now.bookings.get(booking);
        Booking b = now.bookings.get(other);
        if (a.state != 0 || b.state != 0) {
            return NOT_POSSIBLE;
        }
        if (a.load > now.borne(now.machines.get(b.machine), a.radius)
                || b.load > now.borne(now.machines.get(a.machine), b.radius)) {
            return NOT_POSSIBLE;
        }
        record();
        int machine = a.machine;
        int halfDay = a.halfDay;
        a.machine = b.machine;
        a.halfDay = b.halfDay;
        b.machine = machine;
        b.halfDay = halfDay;
        a.accepted = now.winds[a.halfDay];
        b.accepted = now.winds[b.halfDay];
        return a.halfDay;
    }

    int order(int member, int from, int to, int blocks, int halfDay) {
        if (!has(now.members, member) || !has(now.machines, from) || !has(now.machines, to)
                || !now.isComing(halfDay)) {
            return UNKNOWN;
        }
        if (blocks < 1 || blocks > 12 || from == to) {
            return BAD_VALUE;
        }
        if (now.moves.size() == 10) {
            return FULL;
        }
        record();
        Move move = new Move();
        move.member = member;
        move.from = from;
        move.to = to;
        move.blocks = blocks;
        move.halfDay = halfDay;
        now.moves.add(move);
        return now.moves.size() - 1;
    }

    int takeBack(int move) {
        if (!has(now.moves, move)) {
            return UNKNOWN;
        }
        record();
        now.moves.remove(move);
        return now.moves.size();
    }

    int pass(int halfDays) {
        if (halfDays < 1 || halfDays > 20) {
            return BAD_VALUE;
        }
        if (now.present + halfDays > 199) {
            return NOT_POSSIBLE;
        }
        record();
        int lifts = 0;
        for (int passed = 0; passed < halfDays; passed++) {
            lifts += now.passOne();
        }
        return lifts;
    }

    int type(char character) {
        if (text.length() == 60) {
            return FULL;
        }
        text += character;
        return text.length();
    }

    int clearText() {
        int length = text.length();
        text = "";
        return length;
    }

    /** The longest beginning of the text that could still become a text of winds ends where the fault is. */
    private int fault() {
        int fault = 0;
        for (int length = 1; length <= text.length(); length++) {
            Matcher matcher = WINDS.matcher(text.substring(0, length));
            if (matcher.matches() || matcher.hitEnd()) {
                fault = length;
            }
        }
        return fault;
    }

    int readWinds() {
        if (!WINDS.matcher(text).matches()) {
            return -100 - fault();
        }
        String[] winds = text.split(";");
        for (String wind : winds) {
            if (!now.isComing(Integer.parseInt(wind.substring(0, wind.indexOf(':'))))) {
                return UNKNOWN;
            }
        }
        record();
        for (String wind : winds) {
            int colon = wind.indexOf(':');
            now.winds[Integer.parseInt(wind.substring(0, colon))] = Integer.parseInt(wind.substring(colon + 1));
        }
        return winds.length;
    }

    int undo() {
        if (history.isEmpty()) {
            return NONE;
        }
        now = history.removeLast();
        return history.size();
    }

    int keep() {
        kept = now.copy();
        return now.present;
    }

    int restore() {
        if (kept == null) {
            return NONE;
        }
        record();
        now = kept.copy();
        return now.present;
    }

    int bears(int machine, int radius) {
        if (!has(now.machines, machine)) {
            return UNKNOWN;
        }
        if (radius < 2 || radius > 60) {
            return BAD_VALUE;
        }
        return now.borne(now.machines.get(machine), radius);
    }

    int willBear(int machine, int radius, int halfDay) {
        if (!has(now.machines, machine) || !now.isComing(halfDay)) {
            return UNKNOWN;
        }
        if (radius < 2 || radius > 60) {
            return BAD_VALUE;
        }
        State later = now.copy();
        for (; later.present <= halfDay; later.present++) {
            later.passMoves();
        }
        return later.borne(later.machines.get(machine), radius);
    }

    int windLimit(int load, int radius) {
        return isLift(load, radius) ? limit(load, radius) : BAD_VALUE;
    }

    private int bookings(int member, int machine, int state) {
        int count = 0;
        for (Booking booking : now.bookings) {
            if ((member == NONE || booking.member == member) && (machine == NONE || booking.machine == machine)
                    && booking.state == state) {
                count++;
            }
        }
        return count;
    }

    private int moves(int member, int from, int to) {
        int count = 0;
        for (Move move : now.moves) {
            if ((member == NONE || move.member == member) && (from == NONE || move.from == from)
                    && (to == NONE || move.to == to)) {
                count++;
            }
        }
        return count;
    }

    private static int told(int what, int... told) {
        return what >= 0 && what < told.length ? told[what] : BAD_VALUE;
    }

    int machine(int machine, int what) {
        if (!has(now.machines, machine)) {
            return UNKNOWN;
        }
        Machine one = now.machines.get(machine);
        return told(what, one.strength, one.blocks, bookings(NONE, machine, 0), moves(NONE, machine, NONE),
                moves(NONE, NONE, machine), one.noted, bookings(NONE, machine, 1));
    }

    int member(int member, int what) {
        if (!has(now.members, member)) {
            return UNKNOWN;
        }
        Member one = now.members.get(member);
        return told(what, one.paid, bookings(member, NONE, 0), bookings(member, NONE, 1), bookings(member, NONE, 2),
                bookings(member, NONE, 3), one.caused, moves(member, NONE, NONE));
    }

    int booking(int booking, int what) {
        if (!has(now.bookings, booking)) {
            return UNKNOWN;
        }
        Booking one = now.bookings.get(booking);
        return told(what, one.member, one.machine, one.halfDay, one.load, one.radius, one.state, one.accepted,
                one.standbys, limit(one.load, one.radius));
    }

    int move(int move, int what) {
        if (!has(now.moves, move)) {
            return UNKNOWN;
        }
        Move one = now.moves.get(move);
        return told(what, one.member, one.from, one.to, one.blocks, one.halfDay);
    }

    int bookedAt(int machine, int halfDay) {
        if (!has(now.machines, machine) || halfDay < 0 || halfDay > 199) {
            return UNKNOWN;
        }
        return now.bookedAt(machine, halfDay);
    }

    int machineFor(int halfDay, int load, int radius) {
        if (!now.isComing(halfDay)) {
            return UNKNOWN;
        }
        if (!isLift(load, radius)) {
            return BAD_VALUE;
        }
        for (int machine = 0; machine < now.machines.size(); machine++) {
            if (load <= now.borne(now.machines.get(machine), radius) && now.bookedAt(machine, halfDay) == NONE) {
                return machine;
            }
        }
        return NONE;
    }

    int fate(int booking) {
        if (!has(now.bookings, booking)) {
            return UNKNOWN;
        }
        if (now.bookings.get(booking).state != 0) {
            return NOT_POSSIBLE;
        }
        State later = now.copy();
        int halfDay = later.bookings.get(booking).halfDay;
        while (later.present <= halfDay) {
            later.passOne();
        }
        return later.bookings.get(booking).latest;
    }

    int wind(int halfDay) {
        return halfDay < 0 || halfDay > 199 ? UNKNOWN : now.winds[halfDay];
    }

    int count(int what) {
        int blocks = 0;
        for (Machine machine : now.machines) {
            blocks += machine.blocks;
        }
        return told(what, now.present, now.machines.size(), now.members.size(), now.bookings.size(),
                bookings(NONE, NONE, 0), bookings(NONE, NONE, 1), bookings(NONE, NONE, 2), bookings(NONE, NONE, 3),
                now.moves.size(), now.movesDone, now.movesFailed, now.paid, now.caused, now.uncaused, blocks,
                history.size(), text.length());
    }
}
