/**
 * A club that shares cranes: machines with ballast in blocks, what a machine can bear at a radius as it stands,
 * moves of ballast between machines that members order, bookings of lifts by half days, standby when the wind is
 * too strong or ballast was taken away, paid by who caused it, bookings that are carried over, swapped and
 * cancelled, winds that are read from a text with the places of faults, forecasts, accounts, undo and a snapshot.
 *
 * <p>An object is used for at most 512 calls. A call that returns an error or NONE changes nothing; where several
 * errors can apply, the order of the return line is the order of the checks. Each call of an act that returns no
 * error and not NONE records the state that was before it.
 */
public final class BallastClub {
    /** There is no such machine, member, booking, move or half day. */
    public static final int UNKNOWN = -1;
    /** Another argument is out of range. */
    public static final int BAD_VALUE = -2;
    /** There is no more room. */
    public static final int FULL = -3;
    /** This is not possible. */
    public static final int NOT_POSSIBLE = -4;
    /** There is no such thing; not an error. */
    public static final int NONE = -5;

    private static final int MOST_MACHINES = 5;
    private static final int MOST_MEMBERS = 8;
    private static final int MOST_BOOKINGS = 30;
    private static final int MOST_MOVES = 10;
    private static final int MOST_STATES = 4;
    private static final int MOST_SIGNS = 60;
    private static final int HALF_DAYS = 200;

    private static final int LEAST_STRENGTH = 10;
    private static final int GREATEST_STRENGTH = 200;
    private static final int MOST_BLOCKS = 12;
    private static final int GREATEST_WIND = 99;
    private static final int GREATEST_LOAD = 2000;
    private static final int LEAST_RADIUS = 2;
    private static final int GREATEST_RADIUS = 60;
    private static final int LEAST_LIMIT = 10;
    private static final int MOST_PASSED = 20;
    private static final int CARRIED_AT_MOST = 9;

    private static final int MOVE_FEE = 5;
    private static final int BLOCK_FEE = 2;
    private static final int LIFT_FEE = 30;
    private static final int STANDBY_FEE = 8;
    private static final int CANCEL_FEE = 4;

    // The columns of the machines.
    private static final int STRENGTH = 0;
    private static final int BLOCKS = 1;
    private static final int NOTED = 2;
    private static final int MACHINE_COLUMNS = 3;

    // The columns of the members.
    private static final int PAID = 0;
    private static final int CAUSED = 1;
    private static final int MEMBER_COLUMNS = 2;

    // The columns of the bookings, in the order in which booking() numbers them.
    private static final int BOOKING_MEMBER = 0;
    private static final int BOOKING_MACHINE = 1;
    private static final int BOOKING_HALF_DAY = 2;
    private static final int LOAD = 3;
    private static final int RADIUS = 4;
    private static final int STATE = 5;
    private static final int ACCEPTED_WIND = 6;
    private static final int STANDBYS = 7;
    private static final int BOOKING_COLUMNS = 8;
    /** What booking() tells behind the columns. */
    private static final int TOLD_LIMIT = 8;

    // The columns of the moves, in the order in which move() numbers them.
    private static final int MOVE_MEMBER = 0;
    private static final int FROM = 1;
    private static final int TO = 2;
    private static final int MOVED_BLOCKS = 3;
    private static final int MOVE_HALF_DAY = 4;
    private static final int MOVE_COLUMNS = 5;

    // The columns of the winds of a text.
    private static final int TOLD_HALF_DAY = 0;
    private static final int TOLD_WIND = 1;
    private static final int TOLD_COLUMNS = 2;
    /** A wind takes at least four signs, its ";" with it, but the last one needs none. */
    private static final int MOST_TOLD = (MOST_SIGNS + 1) / 4;

    // The states of a booking.
    private static final int BOOKED = 0;
    private static final int DONE = 1;
    private static final int GIVEN_UP = 2;
    private static final int CANCELLED = 3;

    // What fate() tells.
    private static final int WILL_BE_DONE = 0;
    private static final int SOMEBODY_CAUSES_STANDBY = 1;
    private static final int NOBODY_CAUSES_STANDBY = 2;

    private static final int NO_FAULT = -1;
    private static final int NO_NUMBER = -1;
    private static final int NO_SIGN = -1;
    private static final int FAULT_AT_START = -100;

    private final State now;
    private final State snapshot;
    /** A state to try things out in: made once, so that forecasts make no objects. */
    private final State forecast;
    private final History history;
    private final WindText text;
    private boolean hasSnapshot;

    /** Creates a club without machines and members. */
    public BallastClub() {
        now = new State();
        snapshot = new State();
        forecast = new State();
        history = new History();
        text = new WindText();
        hasSnapshot = false;
    }

    // ---- what there is

    /**
     * Adds a machine. This is an act.
     *
     * @param strength 10 to 200
     * @param blocks 0 to 12
     * @return its number; BAD_VALUE; FULL if there are 5
     */
    public int addMachine(int strength, int blocks) {
        if (!isWithin(strength, LEAST_STRENGTH, GREATEST_STRENGTH) || !isWithin(blocks, 0, MOST_BLOCKS)) {
            return BAD_VALUE;
        }
        if (now.machines.isFull()) {
            return FULL;
        }
        history.push(now);
        return now.putMachine(strength, blocks);
    }

    /**
     * Adds a member. This is an act.
     *
     * @return the member's number; FULL if there are 8
     */
    public int addMember() {
        if (now.members.isFull()) {
            return FULL;
        }
        history.push(now);
        return now.members.addRow();
    }

    /**
     * Tells the wind of a half day. This is an act.
     *
     * @param halfDay the present half day or a later one
     * @param wind 0 to 99
     * @return what was told before; UNKNOWN if there is no such half day, or it is over; BAD_VALUE; NONE if it is
     *     so already
     */
    public int setWind(int halfDay, int wind) {
        if (!now.isToCome(halfDay)) {
            return UNKNOWN;
        }
        if (!isWithin(wind, 0, GREATEST_WIND)) {
            return BAD_VALUE;
        }
        int before = now.windAt(halfDay);
        if (before == wind) {
            return NONE;
        }
        history.push(now);
        now.tellWind(halfDay, wind);
        return before;
    }

    // ---- bookings

    /**
     * Books a lift. This is an act.
     *
     * @param member a member
     * @param machine a machine
     * @param halfDay the present half day or a later one
     * @param load 1 to 2000
     * @param radius 2 to 60
     * @return the number of the booking; UNKNOWN (member, machine, or half day, also one that is over); BAD_VALUE;
     *     NOT_POSSIBLE if the machine does not bear the load as it stands now, or there is a booking in the state 0
     *     for it and this half day; FULL if there are 30
     */
    public int book(int member, int machine, int halfDay, int load, int radius) {
        if (!now.members.has(member) || !now.machines.has(machine) || !now.isToCome(halfDay)) {
            return UNKNOWN;
        }
        if (!isLift(load, radius)) {
            return BAD_VALUE;
        }
        if (!now.canTake(machine, halfDay, load, radius)) {
            return NOT_POSSIBLE;
        }
        if (now.bookings.isFull()) {
            return FULL;
        }
        history.push(now);
        int booking = now.putBooking(member, load, radius);
        now.place(booking, machine, halfDay);
        return booking;
    }

    /**
     * Cancels a booking; if it is for the present half day, its member pays 4 coins. This is an act.
     *
     * @param booking a booking
     * @return the coins that are paid; UNKNOWN; NOT_POSSIBLE if it is not in the state 0
     */
    public int cancel(int booking) {
        if (!now.bookings.has(booking)) {
            return UNKNOWN;
        }
        if (!now.isBooked(booking)) {
            return NOT_POSSIBLE;
        }
        history.push(now);
        int coins = now.bookings.get(booking, BOOKING_HALF_DAY) == now.present ? CANCEL_FEE : 0;
        now.pay(now.bookings.get(booking, BOOKING_MEMBER), coins);
        now.bookings.set(booking, STATE, CANCELLED);
        return coins;
    }

    /**
     * Swaps two bookings: each gets the machine and the half day of the other one (and accepts the wind that is told
     * for it now). This is an act.
     *
     * @param booking a booking
     * @param other a booking
     * @return the half day of the first one then; UNKNOWN; BAD_VALUE if both are the same; NOT_POSSIBLE if one of
     *     both is not in the state 0, or one of the machines does not bear the load that it would get as it stands
     *     now
     */
    public int swap(int booking, int other) {
        if (!now.bookings.has(booking) || !now.bookings.has(other)) {
            return UNKNOWN;
        }
        if (booking == other) {
            return BAD_VALUE;
        }
        if (!now.isBooked(booking) || !now.isBooked(other)) {
            return NOT_POSSIBLE;
        }
        int machine = now.bookings.get(booking, BOOKING_MACHINE);
        int halfDay = now.bookings.get(booking, BOOKING_HALF_DAY);
        int otherMachine = now.bookings.get(other, BOOKING_MACHINE);
        int otherHalfDay = now.bookings.get(other, BOOKING_HALF_DAY);
        if (!now.bearsLiftOf(otherMachine, booking) || !now.bearsLiftOf(machine, other)) {
            return NOT_POSSIBLE;
        }
        history.push(now);
        now.place(booking, otherMachine, otherHalfDay);
        now.place(other, machine, halfDay);
        return otherHalfDay;
    }

    // ---- moves

    /**
     * Orders a move. This is an act.
     *
     * @param member a member
     * @param from a machine
     * @param to a machine
     * @param blocks 1 to 12
     * @param halfDay the present half day or a later one
     * @return its number; UNKNOWN (member, from, to, or half day, also one that is over); BAD_VALUE (blocks, or both
     *     machines are the same); FULL if there are 10 open ones
     */
    public int order(int member, int from, int to, int blocks, int halfDay) {
        if (!now.members.has(member) || !now.machines.has(from) || !now.machines.has(to)
                || !now.isToCome(halfDay)) {
            return UNKNOWN;
        }
        if (!isWithin(blocks, 1, MOST_BLOCKS) || from == to) {
            return BAD_VALUE;
        }
        if (now.moves.isFull()) {
            return FULL;
        }
        history.push(now);
        return now.putMove(member, from, to, blocks, halfDay);
    }

    /**
     * Takes back an open move. This is an act.
     *
     * @param move an open move
     * @return how many are open then; UNKNOWN
     */
    public int takeBack(int move) {
        if (!now.moves.has(move)) {
            return UNKNOWN;
        }
        history.push(now);
        now.moves.removeRow(move);
        return now.moves.size();
    }

    /**
     * Lets half days pass, one after the other. This is an act.
     *
     * @param halfDays 1 to 20
     * @return how many lifts are done in them; BAD_VALUE; NOT_POSSIBLE if the present one would become more than 199
     *     (so the half day 199 never passes)
     */
    public int pass(int halfDays) {
        if (!isWithin(halfDays, 1, MOST_PASSED)) {
            return BAD_VALUE;
        }
        if (now.present + halfDays >= HALF_DAYS) {
            return NOT_POSSIBLE;
        }
        history.push(now);
        int lifts = 0;
        for (int passed = 0; passed < halfDays; passed++) {
            lifts += now.passHalfDay();
        }
        return lifts;
    }

    // ---- texts

    /**
     * Types a character behind the text.
     *
     * @param character any character
     * @return the length of the text then; FULL if it has 60 characters
     */
    public int type(char character) {
        return text.append(character) ? text.length() : FULL;
    }

    /**
     * Empties the text.
     *
     * @return the length that it had
     */
    public int clearText() {
        int length = text.length();
        text.empty();
        return length;
    }

    /**
     * Tells the winds of the text, which stays, one after the other, as setWind() does; all of them, or none. This is
     * one act, also if nothing becomes different.
     *
     * @return how many there are; -100 minus the fault of the text if it has one (which is an error); UNKNOWN if
     *     there is no such half day for any of them, or it is over
     */
    public int readWinds() {
        int fault = text.parse();
        if (fault != NO_FAULT) {
            return FAULT_AT_START - fault;
        }
        if (!now.areAllToCome(text.told)) {
            return UNKNOWN;
        }
        history.push(now);
        now.tellWinds(text.told);
        return text.told.size();
    }

    // ---- history

    /**
     * Removes and restores the latest state of the history.
     *
     * @return the number of states that are left; NONE if the history is empty
     */
    public int undo() {
        if (history.size() == 0) {
            return NONE;
        }
        history.popInto(now);
        return history.size();
    }

    /**
     * Takes a snapshot of the state, in place of the one that was.
     *
     * @return the present half day
     */
    public int keep() {
        snapshot.copyFrom(now);
        hasSnapshot = true;
        return now.present;
    }

    /**
     * Restores the state of the snapshot, which stays. This is an act.
     *
     * @return the present half day then; NONE if there is no snapshot
     */
    public int restore() {
        if (!hasSnapshot) {
            return NONE;
        }
        history.push(now);
        now.copyFrom(snapshot);
        return now.present;
    }

    // ---- what is told

    /**
     * Tells what a machine bears.
     *
     * @param machine a machine
     * @param radius 2 to 60
     * @return what it bears as it stands now; UNKNOWN; BAD_VALUE
     */
    public int bears(int machine, int radius) {
        if (!now.machines.has(machine)) {
            return UNKNOWN;
        }
        if (!isRadius(radius)) {
            return BAD_VALUE;
        }
        return now.borneBy(machine, radius);
    }

    /**
     * Tells what a machine would bear behind all open moves for a half day and those before it (the earlier half days
     * first, of one half day by their numbers; those that would fail are left out), if nothing else happened.
     *
     * @param machine a machine
     * @param radius 2 to 60
     * @param halfDay the present half day or a later one
     * @return the tenths of a ton; UNKNOWN (machine, or half day, also one that is over); BAD_VALUE
     */
    public int willBear(int machine, int radius, int halfDay) {
        if (!now.machines.has(machine) || !now.isToCome(halfDay)) {
            return UNKNOWN;
        }
        if (!isRadius(radius)) {
            return BAD_VALUE;
        }
        forecast.copyFrom(now);
        forecast.closeMovesUpTo(halfDay);
        return forecast.borneBy(machine, radius);
    }

    /**
     * Tells the wind limit of a lift.
     *
     * @param load 1 to 2000
     * @param radius 2 to 60
     * @return the wind limit of such a lift; BAD_VALUE
     */
    public int windLimit(int load, int radius) {
        if (!isLift(load, radius)) {
            return BAD_VALUE;
        }
        return limitFor(load, radius);
    }

    /**
     * Tells about a machine.
     *
     * @param machine a machine
     * @param what 0 for its strength, 1 for its blocks, 2 for its bookings in the state 0, 3 for the open moves from
     *     it, 4 for those to it, 5 for the member who is noted for it (NONE if there is none), 6 for the lifts that
     *     it did
     * @return the number; UNKNOWN; BAD_VALUE
     */
    public int machine(int machine, int what) {
        if (!now.machines.has(machine)) {
            return UNKNOWN;
        }
        switch (what) {
            case 0:
                return now.machines.get(machine, STRENGTH);
            case 1:
                return now.machines.get(machine, BLOCKS);
            case 2:
                return now.bookings.countBoth(BOOKING_MACHINE, machine, STATE, BOOKED);
            case 3:
                return now.moves.countOf(FROM, machine);
            case 4:
                return now.moves.countOf(TO, machine);
            case 5:
                return now.machines.get(machine, NOTED);
            case 6:
                return now.bookings.countBoth(BOOKING_MACHINE, machine, STATE, DONE);
            default:
                return BAD_VALUE;
        }
    }

    /**
     * Tells about a member.
     *
     * @param member a member
     * @param what 0 for what the member has paid, 1 to 4 for the member's bookings in the states 0 to 3, 5 for the
     *     standbys that the member caused, 6 for the open moves that the member ordered
     * @return the number; UNKNOWN; BAD_VALUE
     */
    public int member(int member, int what) {
        if (!now.members.has(member)) {
            return UNKNOWN;
        }
        switch (what) {
            case 0:
                return now.members.get(member, PAID);
            case 1:
                return now.bookings.countBoth(BOOKING_MEMBER, member, STATE, BOOKED);
            case 2:
                return now.bookings.countBoth(BOOKING_MEMBER, member, STATE, DONE);
            case 3:
                return now.bookings.countBoth(BOOKING_MEMBER, member, STATE, GIVEN_UP);
            case 4:
                return now.bookings.countBoth(BOOKING_MEMBER, member, STATE, CANCELLED);
            case 5:
                return now.members.get(member, CAUSED);
            case 6:
                return now.moves.countOf(MOVE_MEMBER, member);
            default:
                return BAD_VALUE;
        }
    }

    /**
     * Tells about a booking.
     *
     * @param booking a booking
     * @param what 0 for its member, 1 for its machine, 2 for its half day (the last one that it had, if it is not
     *     booked any more), 3 for its load, 4 for its radius, 5 for its state, 6 for the accepted wind, 7 for how
     *     often it was on standby, 8 for its wind limit
     * @return the number; UNKNOWN; BAD_VALUE
     */
    public int booking(int booking, int what) {
        if (!now.bookings.has(booking)) {
            return UNKNOWN;
        }
        if (what == TOLD_LIMIT) {
            return now.limitOf(booking);
        }
        return isWithin(what, 0, BOOKING_COLUMNS - 1) ? now.bookings.get(booking, what) : BAD_VALUE;
    }

    /**
     * Tells about an open move.
     *
     * @param move an open move
     * @param what 0 for its member, 1 for the machine from which it takes, 2 for that to which it takes, 3 for its
     *     blocks, 4 for its half day
     * @return the number; UNKNOWN; BAD_VALUE
     */
    public int move(int move, int what) {
        if (!now.moves.has(move)) {
            return UNKNOWN;
        }
        return isWithin(what, 0, MOVE_COLUMNS - 1) ? now.moves.get(move, what) : BAD_VALUE;
    }

    /**
     * Tells the booking for a machine and a half day.
     *
     * @param machine a machine
     * @param halfDay 0 to 199
     * @return the booking in the state 0 for both; UNKNOWN; NONE if there is none
     */
    public int bookedAt(int machine, int halfDay) {
        if (!now.machines.has(machine) || !isHalfDay(halfDay)) {
            return UNKNOWN;
        }
        return now.bookingFor(machine, halfDay);
    }

    /**
     * Finds a machine for a lift: the lowest one that bears the load as it stands now, and for which there is no
     * booking in the state 0 for the half day.
     *
     * @param halfDay the present half day or a later one
     * @param load 1 to 2000
     * @param radius 2 to 60
     * @return the machine; UNKNOWN if there is no such half day, or it is over; BAD_VALUE; NONE if there is none
     */
    public int machineFor(int halfDay, int load, int radius) {
        if (!now.isToCome(halfDay)) {
            return UNKNOWN;
        }
        if (!isLift(load, radius)) {
            return BAD_VALUE;
        }
        for (int machine = 0; machine < now.machines.size(); machine++) {
            if (now.canTake(machine, halfDay, load, radius)) {
                return machine;
            }
        }
        return NONE;
    }

    /**
     * Tells what would become of a booking if half days passed up to the one that it has now, with it (also 199), and
     * nothing else happened.
     *
     * @param booking a booking
     * @return 0 if it would be done, 1 if it would be on standby and somebody caused it, 2 if nobody did; UNKNOWN;
     *     NOT_POSSIBLE if it is not in the state 0
     */
    public int fate(int booking) {
        if (!now.bookings.has(booking)) {
            return UNKNOWN;
        }
        if (!now.isBooked(booking)) {
            return NOT_POSSIBLE;
        }
        // Other bookings that pass before it can neither take its half day nor change a machine: moves alone count.
        forecast.copyFrom(now);
        forecast.closeMovesUpTo(now.bookings.get(booking, BOOKING_HALF_DAY));
        if (!forecast.mustStandBy(booking)) {
            return WILL_BE_DONE;
        }
        return forecast.causerOf(booking) == NONE ? NOBODY_CAUSES_STANDBY : SOMEBODY_CAUSES_STANDBY;
    }

    /**
     * Tells the wind of a half day.
     *
     * @param halfDay 0 to 199
     * @return the wind that is told for it; UNKNOWN
     */
    public int wind(int halfDay) {
        return isHalfDay(halfDay) ? now.windAt(halfDay) : UNKNOWN;
    }

    /**
     * Tells a number of the club.
     *
     * @param what 0 for the present half day, 1 for machines, 2 for members, 3 for bookings, 4 to 7 for bookings in
     *     the states 0 to 3, 8 for open moves, 9 for moves that were done, 10 for those that failed, 11 for all that
     *     was paid, 12 for standbys that somebody caused, 13 for those that nobody caused, 14 for all blocks, 15 for
     *     the states in the history, 16 for the length of the text
     * @return the number; BAD_VALUE
     */
    public int count(int what) {
        switch (what) {
            case 0:
                return now.present;
            case 1:
                return now.machines.size();
            case 2:
                return now.members.size();
            case 3:
                return now.bookings.size();
            case 4:
                return now.bookings.countOf(STATE, BOOKED);
            case 5:
                return now.bookings.countOf(STATE, DONE);
            case 6:
                return now.bookings.countOf(STATE, GIVEN_UP);
            case 7:
                return now.bookings.countOf(STATE, CANCELLED);
            case 8:
                return now.moves.size();
            case 9:
                return now.movesDone;
            case 10:
                return now.movesFailed;
            case 11:
                return now.members.sumOf(PAID);
            case 12:
                return now.members.sumOf(CAUSED);
            case 13:
                return now.standbysOfNobody;
            case 14:
                return now.machines.sumOf(BLOCKS);
            case 15:
                return history.size();
            case 16:
                return text.length();
            default:
                return BAD_VALUE;
        }
    }

    private static boolean isWithin(int value, int least, int greatest) {
        return value >= least && value <= greatest;
    }

    private static boolean isHalfDay(int halfDay) {
        return isWithin(halfDay, 0, HALF_DAYS - 1);
    }

    private static boolean isRadius(int radius) {
        return isWithin(radius, LEAST_RADIUS, GREATEST_RADIUS);
    }

    private static boolean isLift(int load, int radius) {
        return isWithin(load, 1, GREATEST_LOAD) && isRadius(radius);
    }

    private static int limitFor(int load, int radius) {
        return Math.max(60 - load / 20 - radius / 2, LEAST_LIMIT);
    }

    /** Everything that undo() and restore() bring back. */
    private static final class State {
        final Table machines;
        final Table members;
        final Table bookings;
        final Table moves;
        private final int[] winds;
        int present;
        int movesDone;
        int movesFailed;
        int standbysOfNobody;

        State() {
            machines = new Table(MOST_MACHINES, MACHINE_COLUMNS);
            members = new Table(MOST_MEMBERS, MEMBER_COLUMNS);
            bookings = new Table(MOST_BOOKINGS, BOOKING_COLUMNS);
            moves = new Table(MOST_MOVES, MOVE_COLUMNS);
            winds = new int[HALF_DAYS];
        }

        void copyFrom(State other) {
            machines.copyFrom(other.machines);
            members.copyFrom(other.members);
            bookings.copyFrom(other.bookings);
            moves.copyFrom(other.moves);
            System.arraycopy(other.winds, 0, winds, 0, Math.min(other.winds.length, winds.length));
            present = other.present;
            movesDone = other.movesDone;
            movesFailed = other.movesFailed;
            standbysOfNobody = other.standbysOfNobody;
        }

        // ---- half days and winds

        boolean isToCome(int halfDay) {
            return halfDay >= present && isHalfDay(halfDay);
        }

        boolean areAllToCome(Table told) {
            for (int row = 0; row < told.size(); row++) {
                if (!isToCome(told.get(row, TOLD_HALF_DAY))) {
                    return false;
                }
            }
            return true;
        }

        int windAt(int halfDay) {
            return halfDay >= 0 && halfDay < winds.length ? winds[halfDay] : 0;
        }

        void tellWind(int halfDay, int wind) {
            if (halfDay >= 0 && halfDay < winds.length) {
                winds[halfDay] = wind;
            }
        }

        void tellWinds(Table told) {
            for (int row = 0; row < told.size(); row++) {
                tellWind(told.get(row, TOLD_HALF_DAY), told.get(row, TOLD_WIND));
            }
        }

        // ---- machines and members

        int putMachine(int strength, int blocks) {
            int machine = machines.addRow();
            machines.set(machine, STRENGTH, strength);
            machines.set(machine, BLOCKS, blocks);
            machines.set(machine, NOTED, NONE);
            return machine;
        }

        int borneBy(int machine, int radius) {
            int strength = machines.get(machine, STRENGTH);
            int blocks = machines.get(machine, BLOCKS);
            int atRadius = (strength * 100 + blocks * 150) / Math.max(radius, LEAST_RADIUS);
            return Math.min(atRadius, strength * 10);
        }

        boolean canTake(int machine, int halfDay, int load, int radius) {
            return load <= borneBy(machine, radius) && bookingFor(machine, halfDay) == NONE;
        }

        void pay(int member, int coins) {
            members.increase(member, PAID, coins);
        }

        // ---- bookings

        /** A booking without a machine and a half day: place() gives it both. */
        int putBooking(int member, int load, int radius) {
            int booking = bookings.addRow();
            bookings.set(booking, BOOKING_MEMBER, member);
            bookings.set(booking, LOAD, load);
            bookings.set(booking, RADIUS, radius);
            bookings.set(booking, STATE, BOOKED);
            return booking;
        }

        void place(int booking, int machine, int halfDay) {
            bookings.set(booking, BOOKING_MACHINE, machine);
            bookings.set(booking, BOOKING_HALF_DAY, halfDay);
            bookings.set(booking, ACCEPTED_WIND, windAt(halfDay));
        }

        boolean isBooked(int booking) {
            return bookings.get(booking, STATE) == BOOKED;
        }

        int bookingFor(int machine, int halfDay) {
            for (int booking = 0; booking < bookings.size(); booking++) {
                if (bookings.get(booking, STATE) == BOOKED && bookings.get(booking, BOOKING_MACHINE) == machine
                        && bookings.get(booking, BOOKING_HALF_DAY) == halfDay) {
                    return booking;
                }
            }
            return NONE;
        }

        int limitOf(int booking) {
            return limitFor(bookings.get(booking, LOAD), bookings.get(booking, RADIUS));
        }

        boolean bearsLiftOf(int machine, int booking) {
            return bookings.get(booking, LOAD) <= borneBy(machine, bookings.get(booking, RADIUS));
        }

        boolean mustStandBy(int booking) {
            return !bearsLiftOf(bookings.get(booking, BOOKING_MACHINE), booking)
                    || windAt(bookings.get(booking, BOOKING_HALF_DAY)) > limitOf(booking);
        }

        /** Who caused the standby of a booking that must stand by; NONE if nobody did. */
        int causerOf(int booking) {
            int machine = bookings.get(booking, BOOKING_MACHINE);
            if (!bearsLiftOf(machine, booking)) {
                return machines.get(machine, NOTED);
            }
            boolean accepted = bookings.get(booking, ACCEPTED_WIND) > limitOf(booking);
            return accepted ? bookings.get(booking, BOOKING_MEMBER) : NONE;
        }

        // ---- moves

        int putMove(int member, int from, int to, int blocks, int halfDay) {
            int move = moves.addRow();
            moves.set(move, MOVE_MEMBER, member);
            moves.set(move, FROM, from);
            moves.set(move, TO, to);
            moves.set(move, MOVED_BLOCKS, blocks);
            moves.set(move, MOVE_HALF_DAY, halfDay);
            return move;
        }

        /** The open move that is next in time, the lowest one of its half day; NONE if all are later. */
        int nextMoveUpTo(int halfDay) {
            int next = NONE;
            int earliest = halfDay + 1;
            for (int move = 0; move < moves.size(); move++) {
                if (moves.get(move, MOVE_HALF_DAY) < earliest) {
                    next = move;
                    earliest = moves.get(move, MOVE_HALF_DAY);
                }
            }
            return next;
        }

        void closeMovesUpTo(int halfDay) {
            for (int closed = 0; closed < MOST_MOVES; closed++) {
                int move = nextMoveUpTo(halfDay);
                if (move == NONE) {
                    return;
                }
                closeMove(move);
            }
        }

        private void closeMove(int move) {
            int member = moves.get(move, MOVE_MEMBER);
            int from = moves.get(move, FROM);
            int to = moves.get(move, TO);
            int blocks = moves.get(move, MOVED_BLOCKS);
            moves.removeRow(move);
            if (machines.get(from, BLOCKS) < blocks || machines.get(to, BLOCKS) + blocks > MOST_BLOCKS) {
                pay(member, MOVE_FEE);
                movesFailed++;
                return;
            }
            machines.increase(from, BLOCKS, -blocks);
            machines.increase(to, BLOCKS, blocks);
            machines.set(from, NOTED, member);
            pay(member, MOVE_FEE + BLOCK_FEE * blocks);
            movesDone++;
        }

        // ---- a half day passes

        /** Returns how many lifts are done in it. */
        int passHalfDay() {
            closeMovesUpTo(present);
            int lifts = 0;
            for (int booking = 0; booking < bookings.size(); booking++) {
                if (!isBooked(booking) || bookings.get(booking, BOOKING_HALF_DAY) != present) {
                    continue;
                }
                if (mustStandBy(booking)) {
                    standBy(booking);
                } else {
                    lift(booking);
                    lifts++;
                }
            }
            present++;
            return lifts;
        }

        private void lift(int booking) {
            bookings.set(booking, STATE, DONE);
            pay(bookings.get(booking, BOOKING_MEMBER), LIFT_FEE);
        }

        private void standBy(int booking) {
            int causer = causerOf(booking);
            if (causer == NONE) {
                standbysOfNobody++;
            } else {
                members.increase(causer, CAUSED, 1);
                pay(causer, STANDBY_FEE);
            }
            bookings.increase(booking, STANDBYS, 1);
            carryOver(booking);
        }

        private void carryOver(int booking) {
            int machine = bookings.get(booking, BOOKING_MACHINE);
            int last = Math.min(present + CARRIED_AT_MOST, HALF_DAYS - 1);
            for (int halfDay = present + 1; halfDay <= last; halfDay++) {
                if (bookingFor(machine, halfDay) == NONE) {
                    place(booking, machine, halfDay);
                    return;
                }
            }
            bookings.set(booking, STATE, GIVEN_UP);
        }
    }

    /** Rows of numbers. A cell that there is not is read as 0 and never written. */
    private static final class Table {
        private final int[] cells;
        private final int mostRows;
        private final int columns;
        private int rows;

        Table(int mostRows, int columns) {
            this.mostRows = mostRows;
            this.columns = columns;
            cells = new int[Math.max(mostRows * columns, 0)];
        }

        int size() {
            return rows;
        }

        boolean has(int row) {
            return row >= 0 && row < rows;
        }

        boolean isFull() {
            return rows >= mostRows;
        }

        int get(int row, int column) {
            int cell = row * columns + column;
            if (row < 0 || row >= rows || column < 0 || column >= columns || cell < 0 || cell >= cells.length) {
                return 0;
            }
            return cells[cell];
        }

        void set(int row, int column, int value) {
            int cell = row * columns + column;
            if (row < 0 || row >= rows || column < 0 || column >= columns || cell < 0 || cell >= cells.length) {
                return;
            }
            cells[cell] = value;
        }

        void increase(int row, int column, int by) {
            set(row, column, get(row, column) + by);
        }

        /** Returns the number of the new row, whose cells are 0; FULL if there is no room. */
        int addRow() {
            if (isFull()) {
                return FULL;
            }
            int row = rows;
            rows++;
            for (int column = 0; column < columns; column++) {
                set(row, column, 0);
            }
            return row;
        }

        /** The rows behind it come one number earlier. */
        void removeRow(int row) {
            if (!has(row)) {
                return;
            }
            for (int later = row + 1; later < rows; later++) {
                for (int column = 0; column < columns; column++) {
                    set(later - 1, column, get(later, column));
                }
            }
            rows--;
        }

        void removeAll() {
            rows = 0;
        }

        int countOf(int column, int value) {
            int count = 0;
            for (int row = 0; row < rows; row++) {
                if (get(row, column) == value) {
                    count++;
                }
            }
            return count;
        }

        int countBoth(int column, int value, int otherColumn, int otherValue) {
            int count = 0;
            for (int row = 0; row < rows; row++) {
                if (get(row, column) == value && get(row, otherColumn) == otherValue) {
                    count++;
                }
            }
            return count;
        }

        int sumOf(int column) {
            int sum = 0;
            for (int row = 0; row < rows; row++) {
                sum += get(row, column);
            }
            return sum;
        }

        void copyFrom(Table other) {
            rows = Math.min(other.rows, mostRows);
            System.arraycopy(other.cells, 0, cells, 0, Math.min(other.cells.length, cells.length));
        }
    }

    /** The latest states, in a ring: the next one takes the place of the oldest one. */
    private static final class History {
        private final State[] states;
        private int next;
        private int size;

        History() {
            states = new State[MOST_STATES];
            for (int place = 0; place < MOST_STATES; place++) {
                states[place] = new State();
            }
        }

        int size() {
            return size;
        }

        private State stateAt(int place) {
            return place >= 0 && place < states.length ? states[place] : null;
        }

        void push(State state) {
            State place = stateAt(next);
            if (place == null) {
                return;
            }
            place.copyFrom(state);
            next = (next + 1) % MOST_STATES;
            size = Math.min(size + 1, MOST_STATES);
        }

        void popInto(State state) {
            int latest = (next + MOST_STATES - 1) % MOST_STATES;
            State place = stateAt(latest);
            if (size == 0 || place == null) {
                return;
            }
            state.copyFrom(place);
            next = latest;
            size--;
        }
    }

    /** The text that is typed, and a reader of the winds in it. */
    private static final class WindText {
        private final char[] signs;
        private int length;
        /** Where the reader stands. */
        private int at;
        /** The winds that parse() found. */
        final Table told;

        WindText() {
            signs = new char[MOST_SIGNS];
            told = new Table(MOST_TOLD, TOLD_COLUMNS);
        }

        int length() {
            return length;
        }

        /** Returns whether there was room. */
        boolean append(char sign) {
            if (length < 0 || length >= signs.length) {
                return false;
            }
            signs[length] = sign;
            length++;
            return true;
        }

        void empty() {
            length = 0;
        }

        /** Finds the winds of the text. Returns its fault, or NO_FAULT. */
        int parse() {
            told.removeAll();
            at = 0;
            for (int winds = 0; winds <= MOST_TOLD; winds++) {
                int halfDay = readNumber(3);
                if (halfDay == NO_NUMBER || !readSign(':')) {
                    return at;
                }
                int wind = readNumber(2);
                if (wind == NO_NUMBER) {
                    return at;
                }
                int row = told.addRow();
                told.set(row, TOLD_HALF_DAY, halfDay);
                told.set(row, TOLD_WIND, wind);
                if (at >= length) {
                    return NO_FAULT;
                }
                if (!readSign(';')) {
                    return at;
                }
            }
            return at;
        }

        /** Returns the sign where the reader stands; NO_SIGN behind the text. */
        private int sign() {
            if (at < 0 || at >= length || at >= signs.length) {
                return NO_SIGN;
            }
            return signs[at];
        }

        private boolean readSign(char wanted) {
            if (sign() != wanted) {
                return false;
            }
            at++;
            return true;
        }

        /** Returns the number where the reader stands, and goes behind it; NO_NUMBER if there is none. */
        private int readNumber(int mostDigits) {
            if (!isDigit(sign())) {
                return NO_NUMBER;
            }
            // A 0 in front stands alone: a digit behind it is a fault, which whoever reads the next sign finds.
            int allowed = sign() == '0' ? 1 : mostDigits;
            int number = 0;
            for (int digits = 0; digits < allowed && isDigit(sign()); digits++) {
                number = number * 10 + sign() - '0';
                at++;
            }
            return number;
        }

        private static boolean isDigit(int sign) {
            return sign >= '0' && sign <= '9';
        }
    }
}
