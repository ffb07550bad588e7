/** Promises 5 to 7, 24 and 25, and "Terms", "BOOKINGS": each sentence at its bounds. */
public final class BookingEdgesTest {
    private static final int BAD_VALUE = BallastClub.BAD_VALUE;
    private static final int NOT_POSSIBLE = BallastClub.NOT_POSSIBLE;
    private static final int NONE = BallastClub.NONE;

    private final Check check = new Check("BookingEdgesTest");

    public static void main(String[] args) {
        new BookingEdgesTest().run();
    }

    private void run() {
        checkNewBooking();
        checkCancelOfThePresentHalfDay();
        checkCancelOfEachState();
        checkSwapChangesWhat();
        checkSwapAcceptsTheWind();
        checkSwapOfEachState();
        checkSwapOfLoads();
        checkSwapAsItStandsNow();
        checkSwapOnOneMachine();
        checkSwapOfHalfDays();
        checkBookedAtOfEachState();
        checkMachineForTheLowest();
        checkMachineForFull();
        check.finish();
    }

    /** Bookings in each state: 0 is given up, 1 is booked, 2 is done, 3 is cancelled; half day 1 is the present one. */
    private static NotedClub eachState() {
        NotedClub club = Clubs.of(1, 50, 0, 0, 0);
        club.book(0, 0, 0, 10, 60);
        club.book(0, 1, 9, 1, 2);
        club.book(0, 2, 0, 1, 2);
        club.book(0, 1, 8, 1, 2);
        for (int halfDay = 1; halfDay <= 9; halfDay++) {
            club.book(0, 0, halfDay, 1, 2);
        }
        club.setWind(0, 31);
        club.cancel(3);
        club.pass(1);
        return club;
    }

    private void checkNewBooking() {
        check.part("a new booking");
        NotedClub club = Clubs.of(2, 50, 0, 0);
        club.setWind(7, 30);
        check.due("book", club.book(1, 1, 7, 77, 7), 0);
        club.setWind(7, 31);
        int[] told = {1, 1, 7, 77, 7, 0, 30, 0, 54};
        for (int what = 0; what < told.length; what++) {
            check.due("booking(0, " + what + ")", club.booking(0, what), told[what]);
        }
        check.due("nobody pays", club.count(11), 0);
        check.due("machine(1, 2)", club.machine(1, 2), 1);
        check.due("machine(0, 2)", club.machine(0, 2), 0);
        check.due("member(1, 1)", club.member(1, 1), 1);
        check.due("member(0, 1)", club.member(0, 1), 0);
    }

    // ---- cancel()

    /** "if it is for the present half day, its member pays 4 coins" */
    private void checkCancelOfThePresentHalfDay() {
        for (int present : new int[] {0, 1, 100, 198}) {
            check.part("cancel() at " + present);
            NotedClub club = Clubs.passTo(Clubs.of(2, 50, 0), present);
            club.book(1, 0, present, 1, 2);
            club.book(1, 0, present + 1, 1, 2);
            check.due("the next one", club.cancel(1), 0);
            check.due("member(1, 0)", club.member(1, 0), 0);
            check.due("the present one", club.cancel(0), 4);
            check.due("member(1, 0)", club.member(1, 0), 4);
            check.due("member(0, 0)", club.member(0, 0), 0);
            check.due("count(11)", club.count(11), 4);
            check.due("its state", club.booking(0, 5), 3);
            check.due("its half day stays", club.booking(0, 2), present);
            check.due("its half day stays", club.booking(1, 2), present + 1);
            check.due("count(7)", club.count(7), 2);
            check.due("pass(1), nothing is done", club.pass(1), 0);
            check.due("count(11)", club.count(11), 4);
        }
        check.part("cancel() of one that is carried over");
        NotedClub club = Clubs.of(1, 50, 0);
        club.book(0, 0, 0, 1, 2);
        club.setWind(0, 99);
        club.pass(1);
        check.due("for the present one", club.cancel(0), 4);
        check.due("its standbys stay", club.booking(0, 7), 1);
        check.due("its half day stays", club.booking(0, 2), 1);
    }

    /** "NOT_POSSIBLE if it is not in the state 0" */
    private void checkCancelOfEachState() {
        check.part("cancel() in each state");
        NotedClub club = eachState();
        int[] states = {2, 0, 1, 3};
        for (int booking = 0; booking < states.length; booking++) {
            check.due("booking(" + booking + ", 5)", club.booking(booking, 5), states[booking]);
            int due = states[booking] == 0 ? 0 : NOT_POSSIBLE;
            check.due("fate(" + booking + ")", club.fate(booking), due);
            check.due("cancel(" + booking + ")", club.cancel(booking), due);
            check.due("cancel(" + booking + ") again", club.cancel(booking), NOT_POSSIBLE);
            check.due("fate(" + booking + ") then", club.fate(booking), NOT_POSSIBLE);
        }
        check.due("only the lift was paid", club.count(11), 30);
    }

    // ---- swap()

    /** "each gets the machine and the half day of the other one": all else stays. */
    private void checkSwapChangesWhat() {
        check.part("what swap() changes");
        NotedClub club = Clubs.of(3, 50, 0, 0);
        club.setWind(0, 59);
        club.book(1, 0, 0, 40, 5);
        club.setWind(0, 60);
        club.pass(1);
        club.book(2, 1, 6, 30, 9);
        club.setWind(1, 11);
        club.setWind(6, 66);
        check.due("swap(0, 1)", club.swap(0, 1), 6);
        int[] first = {1, 1, 6, 40, 5, 0, 66, 1, 56};
        int[] second = {2, 0, 1, 30, 9, 0, 11, 0, 55};
        for (int what = 0; what <= 8; what++) {
            check.due("booking(0, " + what + ")", club.booking(0, what), first[what]);
            check.due("booking(1, " + what + ")", club.booking(1, what), second[what]);
        }
        check.due("swap(1, 0), back", club.swap(1, 0), 6);
        check.due("booking(0, 2)", club.booking(0, 2), 1);
        check.due("booking(0, 1)", club.booking(0, 1), 0);
        check.due("count(11), nobody pays for a swap", club.count(11), 8);
    }

    /** "and accepts the wind that is told for it now", whatever was accepted, also if the half day is the same. */
    private void checkSwapAcceptsTheWind() {
        check.part("swap() accepts the wind");
        NotedClub club = Clubs.of(1, 50, 0, 0);
        club.setWind(5, 60);
        club.book(0, 0, 5, 1, 2);
        club.book(0, 1, 5, 1, 2);
        check.due("accepted", club.fate(0), 1);
        club.setWind(5, 59);
        check.due("swap(0, 1)", club.swap(0, 1), 5);
        check.due("booking(0, 6)", club.booking(0, 6), 59);
        check.due("booking(1, 6)", club.booking(1, 6), 59);
        club.setWind(5, 60);
        check.due("accepted just the limit", club.fate(0), 2);
        check.due("swap(0, 1)", club.swap(0, 1), 5);
        check.due("accepted one more", club.fate(0), 1);
        check.due("accepted one more", club.fate(1), 1);
        club.book(0, 0, 6, 1, 2);
        check.due("swap(0, 2), on one machine or another", club.swap(0, 2), 6);
        check.due("booking(0, 6)", club.booking(0, 6), 0);
        check.due("booking(2, 6)", club.booking(2, 6), 60);
    }

    /** "NOT_POSSIBLE if one of both is not in the state 0"; "BAD_VALUE if both are the same" */
    private void checkSwapOfEachState() {
        check.part("swap() in each state");
        int[] states = {2, 0, 1, 3};
        for (int booking = 0; booking < 4; booking++) {
            NotedClub club = eachState();
            int due = states[booking] == 0 ? BAD_VALUE : NOT_POSSIBLE;
            check.due("swap(" + booking + ", 1)", club.swap(booking, 1), due);
            check.due("swap(1, " + booking + ")", club.swap(1, booking), due);
            check.due("swap(" + booking + ", " + booking + ")", club.swap(booking, booking), BAD_VALUE);
            check.due("swap(" + booking + ", 2)", club.swap(booking, 2), booking == 2 ? BAD_VALUE : NOT_POSSIBLE);
            due = states[booking] == 0 ? 4 : NOT_POSSIBLE;
            check.due("swap(" + booking + ", 7)", club.swap(booking, 7), due);
        }
    }

    /** "or one of the machines does not bear the load that it would get": as much is possible, one more isn't. */
    private void checkSwapOfLoads() {
        check.part("swap() of loads");
        check.due("machine 0 gets as much as it bears", withLoad(250).swap(0, 1), 4);
        check.due("the other way round", withLoad(250).swap(1, 0), 3);
        check.due("machine 0 would get one more", withLoad(251).swap(0, 1), NOT_POSSIBLE);
        check.due("the other way round", withLoad(251).swap(1, 0), NOT_POSSIBLE);
        NotedClub club = withLoad(250);
        club.swap(0, 1);
        check.due("bookedAt(0, 3)", club.bookedAt(0, 3), 1);
        check.due("bookedAt(1, 4)", club.bookedAt(1, 4), 0);
        club = withLoad(251);
        club.swap(0, 1);
        check.due("bookedAt(0, 3), refused", club.bookedAt(0, 3), 0);
        check.due("bookedAt(1, 4), refused", club.bookedAt(1, 4), 1);
    }

    /** Machine 0 bears 250 at 20, machine 1 has a booking of the load there. */
    private static NotedClub withLoad(int load) {
        NotedClub club = new NotedClub();
        club.addMachine(50, 0);
        club.addMachine(80, 0);
        club.addMember();
        club.book(0, 0, 3, 1, 20);
        club.book(0, 1, 4, load, 20);
        return club;
    }

    private void checkSwapAsItStandsNow() {
        check.part("swap() as the machines stand now");
        NotedClub club = Clubs.of(1, 50, 0, 2);
        club.book(0, 0, 5, 250, 20);
        club.book(0, 1, 6, 265, 20);
        check.due("one more block is needed", club.swap(0, 1), NOT_POSSIBLE);
        club.order(0, 1, 0, 2, 0);
        check.due("an open move doesn't count", club.swap(0, 1), NOT_POSSIBLE);
        club.pass(1);
        check.due("a done one does", club.swap(0, 1), 6);
        check.due("and back: machine 1 bears it no more", club.swap(0, 1), NOT_POSSIBLE);
        check.due("booking(0, 1)", club.booking(0, 1), 1);
    }

    /** One machine that bears one of both loads no more: it would get it, at another half day. */
    private void checkSwapOnOneMachine() {
        check.part("swap() on one machine");
        NotedClub club = Clubs.of(1, 50, 1, 0);
        club.book(0, 0, 5, 257, 20);
        club.book(0, 0, 6, 250, 20);
        club.book(0, 0, 7, 249, 20);
        check.due("swap(0, 1)", club.swap(0, 1), 6);
        check.due("swap(0, 1)", club.swap(0, 1), 5);
        club.order(0, 0, 1, 1, 0);
        club.pass(1);
        check.due("swap(0, 1)", club.swap(0, 1), NOT_POSSIBLE);
        check.due("swap(1, 0)", club.swap(1, 0), NOT_POSSIBLE);
        check.due("swap(1, 2), both are borne", club.swap(1, 2), 7);
        check.due("booking(1, 2)", club.booking(1, 2), 7);
        check.due("booking(2, 2)", club.booking(2, 2), 6);
    }

    private void checkSwapOfHalfDays() {
        check.part("swap() of the present and the last half day");
        NotedClub club = Clubs.passTo(Clubs.of(1, 50, 0, 0), 20);
        club.book(0, 0, 20, 1, 2);
        club.book(0, 1, 199, 2, 2);
        check.due("swap(0, 1)", club.swap(0, 1), 199);
        check.due("bookedAt(0, 20)", club.bookedAt(0, 20), 1);
        check.due("bookedAt(1, 199)", club.bookedAt(1, 199), 0);
        check.due("swap(0, 1)", club.swap(0, 1), 20);
        check.due("count(11)", club.count(11), 0);
    }

    // ---- bookedAt() and machineFor()

    private void checkBookedAtOfEachState() {
        check.part("bookedAt() in each state");
        NotedClub club = eachState();
        check.due("done", club.bookedAt(2, 0), NONE);
        check.due("given up", club.bookedAt(0, 0), NONE);
        check.due("cancelled", club.bookedAt(1, 8), NONE);
        check.due("booked", club.bookedAt(1, 9), 1);
        check.due("booked", club.bookedAt(0, 1), 4);
        check.due("booked", club.bookedAt(0, 9), 12);
        check.due("nothing", club.bookedAt(0, 10), NONE);
        check.due("nothing", club.bookedAt(2, 9), NONE);
    }

    /** "the lowest one that bears the load as it stands now, and for which there is no booking in the state 0" */
    private void checkMachineForTheLowest() {
        check.part("machineFor()");
        NotedClub club = Clubs.of(1, 50, 0, 2, 1, 2);
        check.due("all bear it", club.machineFor(3, 250, 20), 0);
        check.due("all but one", club.machineFor(3, 251, 20), 1);
        check.due("two bear it", club.machineFor(3, 265, 20), 1);
        check.due("none bears it", club.machineFor(3, 266, 20), NONE);
        club.book(0, 1, 3, 1, 2);
        check.due("the lowest is booked", club.machineFor(3, 265, 20), 3);
        check.due("another half day", club.machineFor(2, 265, 20), 1);
        check.due("another half day", club.machineFor(4, 265, 20), 1);
        check.due("a lower one bears it", club.machineFor(3, 257, 20), 2);
        club.book(0, 3, 3, 1, 2);
        check.due("both are booked", club.machineFor(3, 265, 20), NONE);
        club.cancel(0);
        check.due("a cancelled one leaves it", club.machineFor(3, 265, 20), 1);
        club.order(0, 1, 0, 2, 0);
        check.due("an open move doesn't count", club.machineFor(3, 265, 20), 1);
        club.pass(1);
        check.due("a done one does", club.machineFor(3, 265, 20), 0);
    }

    private void checkMachineForFull() {
        check.part("machineFor() with five machines, and with none");
        check.due("none", new NotedClub().machineFor(0, 1, 2), NONE);
        NotedClub club = Clubs.of(1, 50, 0, 0, 0, 0, 0);
        for (int machine = 0; machine < 5; machine++) {
            check.due("machineFor(199, 1, 2)", club.machineFor(199, 1, 2), machine);
            check.due("book", club.book(0, machine, 199, 1, 2), machine);
        }
        check.due("all are booked", club.machineFor(199, 1, 2), NONE);
        club = Clubs.of(1, 50, 0);
        for (int booking = 0; booking < 30; booking++) {
            club.book(0, 0, booking, 1, 2);
        }
        check.due("30 bookings, which it doesn't ask for", club.machineFor(30, 1, 2), 0);
    }
}
