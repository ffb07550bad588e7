/** "Terms": the tables of machines, members, bookings and open moves, from empty to full; who has which number. */
public final class TableEdgesTest {
    private static final int UNKNOWN = BallastClub.UNKNOWN;
    private static final int BAD_VALUE = BallastClub.BAD_VALUE;
    private static final int FULL = BallastClub.FULL;
    private static final int NOT_POSSIBLE = BallastClub.NOT_POSSIBLE;
    private static final int NONE = BallastClub.NONE;

    private final Check check = new Check("TableEdgesTest");

    public static void main(String[] args) {
        new TableEdgesTest().run();
    }

    private void run() {
        checkMachines();
        checkMachinesAreFull();
        checkMembers();
        checkMembersAreFull();
        checkBookings();
        checkBookingsAreFull();
        checkEndedBookingsTakeRoom();
        checkMoves();
        checkMovesAreFull();
        checkRoomForMoves();
        checkLaterMovesComeEarlier();
        checkMovesThatPassComeEarlier();
        checkOneBookingForAHalfDay();
        checkAHalfDayIsFreeAgain();
        check.finish();
    }

    // ---- "There are at most 5 machines, numbered from 0."

    private void checkMachines() {
        for (int machines = 0; machines <= 5; machines++) {
            check.part("with " + machines + " machines");
            NotedClub club = Clubs.of(1, 50, new int[machines]);
            check.due("count(1)", club.count(1), machines);
            check.due("machineFor(0, 1, 2)", club.machineFor(0, 1, 2), machines == 0 ? NONE : 0);
            checkNoMachine(club, -1);
            for (int machine = 0; machine < machines; machine++) {
                checkMachine(club, machine);
            }
            checkNoMachine(club, machines);
            checkNoMachine(club, 5);
        }
    }

    private void checkMachine(NotedClub club, int machine) {
        check.due("bears(" + machine + ", 2)", club.bears(machine, 2), 500);
        check.due("willBear(" + machine + ", 2, 0)", club.willBear(machine, 2, 0), 500);
        check.due("machine(" + machine + ", 0)", club.machine(machine, 0), 50);
        check.due("bookedAt(" + machine + ", 0)", club.bookedAt(machine, 0), NONE);
        check.due("book for the machine " + machine, club.book(0, machine, 0, 1, 2), machine);
        check.due("bookedAt(" + machine + ", 0)", club.bookedAt(machine, 0), machine);
        int other = machine == 0 ? club.count(1) - 1 : 0;
        int due = other == machine ? BAD_VALUE : 2 * machine;
        check.due("order from the machine " + machine, club.order(0, machine, other, 1, 0), due);
        check.due("order to the machine " + machine, club.order(0, other, machine, 1, 0), due < 0 ? due : due + 1);
    }

    private void checkNoMachine(NotedClub club, int machine) {
        check.due("bears(" + machine + ", 2)", club.bears(machine, 2), UNKNOWN);
        check.due("willBear(" + machine + ", 2, 0)", club.willBear(machine, 2, 0), UNKNOWN);
        check.due("machine(" + machine + ", 0)", club.machine(machine, 0), UNKNOWN);
        check.due("bookedAt(" + machine + ", 0)", club.bookedAt(machine, 0), UNKNOWN);
        check.due("book for the machine " + machine, club.book(0, machine, 0, 1, 2), UNKNOWN);
        check.due("order from the machine " + machine, club.order(0, machine, 0, 1, 0), UNKNOWN);
        check.due("order to the machine " + machine, club.order(0, 0, machine, 1, 0), UNKNOWN);
    }

    private void checkMachinesAreFull() {
        check.part("5 machines");
        NotedClub club = new NotedClub();
        for (int machine = 0; machine < 5; machine++) {
            check.due("addMachine", club.addMachine(10 + machine, machine), machine);
        }
        check.due("a 6th", club.addMachine(10, 0), FULL);
        check.due("a 6th, too weak", club.addMachine(9, 0), BAD_VALUE);
        check.due("a 6th with 13 blocks", club.addMachine(10, 13), BAD_VALUE);
        check.due("count(1)", club.count(1), 5);
        check.due("all blocks", club.count(14), 10);
        check.due("the first one", club.machine(0, 0), 10);
        check.due("the last one", club.machine(4, 0), 14);
        check.due("undo()", club.undo(), 3);
        check.due("room again", club.addMachine(99, 9), 4);
        check.due("and full again", club.addMachine(99, 9), FULL);
        check.due("all blocks", club.count(14), 15);
    }

    // ---- "There are at most 8 members, numbered from 0."

    private void checkMembers() {
        for (int members = 0; members <= 8; members++) {
            check.part("with " + members + " members");
            NotedClub club = Clubs.of(members, 50, 1, 1);
            check.due("count(2)", club.count(2), members);
            for (int member = 0; member < members; member++) {
                check.due("member(" + member + ", 0)", club.member(member, 0), 0);
                check.due("book of the member " + member, club.book(member, 0, member, 1, 2), member);
                check.due("order of the member " + member, club.order(member, 0, 1, 1, 0), member);
            }
            for (int member : new int[] {-1, members, 8}) {
                check.due("member(" + member + ", 0)", club.member(member, 0), UNKNOWN);
                check.due("book of the member " + member, club.book(member, 0, 9, 1, 2), UNKNOWN);
                check.due("order of the member " + member, club.order(member, 0, 1, 1, 0), UNKNOWN);
            }
        }
    }

    private void checkMembersAreFull() {
        check.part("8 members");
        NotedClub club = Clubs.of(7, 50);
        check.due("the 8th", club.addMember(), 7);
        check.due("a 9th", club.addMember(), FULL);
        check.due("count(2)", club.count(2), 8);
        check.due("undo()", club.undo(), 3);
        check.due("room again", club.addMember(), 7);
        check.due("and full again", club.addMember(), FULL);
    }

    // ---- "There are at most 30 bookings, numbered from 0."

    private void checkBookings() {
        check.part("bookings one by one");
        NotedClub club = Clubs.of(1, 50, 1);
        checkNoBooking(club, -1);
        for (int booking = 0; booking < 30; booking++) {
            checkNoBooking(club, booking);
            check.due("book", club.book(0, 0, booking, 1 + booking, 2), booking);
            check.due("count(3)", club.count(3), booking + 1);
            check.due("count(4)", club.count(4), booking + 1);
            check.due("fate(" + booking + ")", club.fate(booking), 0);
            check.due("booking(" + booking + ", 3)", club.booking(booking, 3), 1 + booking);
        }
        checkNoBooking(club, 30);
        check.due("swap(0, 29)", club.swap(0, 29), 29);
        check.due("cancel(29)", club.cancel(29), 4);
        check.due("cancel(0)", club.cancel(0), 0);
    }

    private void checkNoBooking(NotedClub club, int booking) {
        check.due("cancel(" + booking + ")", club.cancel(booking), UNKNOWN);
        check.due("swap(" + booking + ", 0)", club.swap(booking, 0), UNKNOWN);
        check.due("swap(0, " + booking + ")", club.swap(0, booking), UNKNOWN);
        check.due("swap(" + booking + ", " + booking + ")", club.swap(booking, booking), UNKNOWN);
        check.due("booking(" + booking + ", 0)", club.booking(booking, 0), UNKNOWN);
        check.due("booking(" + booking + ", 9)", club.booking(booking, 9), UNKNOWN);
        check.due("fate(" + booking + ")", club.fate(booking), UNKNOWN);
    }

    private static NotedClub fullOfBookings() {
        NotedClub club = Clubs.of(1, 50, 1, 1);
        for (int booking = 0; booking < 30; booking++) {
            club.book(0, 0, booking, 1, 2);
        }
        return club;
    }

    private void checkBookingsAreFull() {
        check.part("30 bookings");
        NotedClub club = fullOfBookings();
        check.due("a 31st", club.book(0, 1, 0, 1, 2), FULL);
        check.due("a 31st, borne just", club.book(0, 1, 0, 500, 2), FULL);
        check.due("a 31st, too heavy", club.book(0, 1, 0, 501, 2), NOT_POSSIBLE);
        check.due("a 31st, booked", club.book(0, 0, 29, 1, 2), NOT_POSSIBLE);
        check.due("a 31st, load 0", club.book(0, 0, 29, 0, 2), BAD_VALUE);
        check.due("a 31st, half day 200", club.book(0, 0, 200, 0, 2), UNKNOWN);
        check.due("count(3)", club.count(3), 30);
        check.due("undo()", club.undo(), 3);
        check.due("room again", club.book(0, 1, 0, 1, 2), 29);
        check.due("and full again", club.book(0, 1, 1, 1, 2), FULL);
    }

    /** All bookings count, in whatever state they are. */
    private void checkEndedBookingsTakeRoom() {
        check.part("30 bookings that are ended");
        NotedClub club = fullOfBookings();
        club.setWind(0, 99);
        check.due("pass(1)", club.pass(1), 0);
        check.due("given up", club.count(6), 1);
        check.due("a 31st behind one given up", club.book(0, 1, 1, 1, 2), FULL);
        check.due("cancel(29)", club.cancel(29), 0);
        check.due("a 31st behind a cancelled one", club.book(0, 0, 29, 1, 2), FULL);
        check.due("pass(20)", club.pass(20), 20);
        check.due("a 31st behind those that are done", club.book(0, 1, 21, 1, 2), FULL);
        check.due("count(3)", club.count(3), 30);
        check.due("count(4)", club.count(4), 8);
    }

    // ---- "There are at most 10 open moves, numbered from 0 in the order in which they were ordered"

    private void checkMoves() {
        check.part("moves one by one");
        NotedClub club = Clubs.of(1, 50, 1, 1);
        checkNoMove(club, -1);
        for (int move = 0; move < 10; move++) {
            checkNoMove(club, move);
            check.due("order", club.order(0, 0, 1, 1 + move, 99 - move), move);
            check.due("count(8)", club.count(8), move + 1);
            check.due("move(" + move + ", 3)", club.move(move, 3), 1 + move);
            check.due("move(" + move + ", 4)", club.move(move, 4), 99 - move);
        }
        checkNoMove(club, 10);
        check.due("takeBack(9)", club.takeBack(9), 9);
        checkNoMove(club, 9);
    }

    private void checkNoMove(NotedClub club, int move) {
        check.due("takeBack(" + move + ")", club.takeBack(move), UNKNOWN);
        check.due("move(" + move + ", 0)", club.move(move, 0), UNKNOWN);
        check.due("move(" + move + ", 5)", club.move(move, 5), UNKNOWN);
    }

    /** Ten moves of 1 to 10 blocks: the blocks tell them apart. The one of 1 + n blocks is for half day n. */
    private static NotedClub fullOfMoves() {
        NotedClub club = Clubs.of(2, 50, 12, 0);
        for (int move = 0; move < 10; move++) {
            club.order(0, 0, 1, 1 + move, move);
        }
        return club;
    }

    private void checkMovesAreFull() {
        check.part("10 moves");
        NotedClub club = fullOfMoves();
        check.due("an 11th", club.order(0, 1, 0, 1, 0), FULL);
        check.due("an 11th of 13 blocks", club.order(0, 1, 0, 13, 0), BAD_VALUE);
        check.due("an 11th to the same", club.order(0, 1, 1, 1, 0), BAD_VALUE);
        check.due("an 11th of no member", club.order(2, 1, 1, 1, 0), UNKNOWN);
        check.due("count(8)", club.count(8), 10);
        check.due("member(0, 6)", club.member(0, 6), 10);
    }

    private void checkRoomForMoves() {
        check.part("room for moves");
        NotedClub club = fullOfMoves();
        check.due("takeBack(4)", club.takeBack(4), 9);
        check.due("room behind takeBack()", club.order(1, 1, 0, 12, 50), 9);
        check.due("and full again", club.order(1, 1, 0, 12, 50), FULL);
        check.due("undo()", club.undo(), 3);
        check.due("undo()", club.undo(), 2);
        check.due("full as before", club.order(1, 1, 0, 12, 50), FULL);
        club.pass(1);
        check.due("room behind one that is done", club.order(1, 1, 0, 12, 50), 9);
        check.due("and full again", club.order(1, 1, 0, 12, 50), FULL);
        club = Clubs.of(1, 50, 0, 0);
        for (int move = 0; move < 10; move++) {
            club.order(0, 0, 1, 1, 0);
        }
        club.pass(1);
        check.due("all failed", club.count(10), 10);
        check.due("room behind those that failed", club.order(0, 0, 1, 1, 1), 0);
    }

    /** "when one is no longer open, the later ones come one number earlier" */
    private void checkLaterMovesComeEarlier() {
        for (int taken = 0; taken < 10; taken++) {
            check.part("move " + taken + " of 10 is taken back");
            NotedClub club = fullOfMoves();
            check.due("takeBack(" + taken + ")", club.takeBack(taken), 9);
            for (int move = 0; move < 9; move++) {
                int blocks = move < taken ? move + 1 : move + 2;
                check.due("move(" + move + ", 3)", club.move(move, 3), blocks);
                check.due("move(" + move + ", 4)", club.move(move, 4), blocks - 1);
            }
            check.due("move(9, 3)", club.move(9, 3), UNKNOWN);
        }
    }

    /** The first, the last and some between are for the half day that passes; one of them fails. */
    private void checkMovesThatPassComeEarlier() {
        check.part("moves that pass");
        NotedClub club = Clubs.of(1, 50, 12, 0);
        int[] halfDays = {0, 5, 6, 0, 0, 7, 8, 0, 9, 0};
        int[] blocks = {1, 2, 3, 12, 2, 4, 5, 3, 6, 4};
        for (int move = 0; move < 10; move++) {
            check.due("order", club.order(0, 0, 1, blocks[move], halfDays[move]), move);
        }
        club.pass(1);
        int[] left = {2, 3, 4, 5, 6};
        check.due("count(8)", club.count(8), left.length);
        for (int move = 0; move < left.length; move++) {
            check.due("move(" + move + ", 3)", club.move(move, 3), left[move]);
            check.due("move(" + move + ", 4)", club.move(move, 4), 5 + move);
        }
        check.due("move(5, 3)", club.move(5, 3), UNKNOWN);
        check.due("done", club.count(9), 4);
        check.due("failed", club.count(10), 1);
        check.due("the next one", club.order(0, 0, 1, 1, 9), 5);
    }

    // ---- "There is at most one booking in the state 0 for a machine and a half day."

    private void checkOneBookingForAHalfDay() {
        check.part("one booking for a machine and a half day");
        NotedClub club = Clubs.of(2, 50, 1, 1);
        check.due("book", club.book(0, 0, 5, 1, 2), 0);
        check.due("the same, of the same member", club.book(0, 0, 5, 1, 2), NOT_POSSIBLE);
        check.due("the same, of another member", club.book(1, 0, 5, 9, 9), NOT_POSSIBLE);
        check.due("the half day before it", club.book(0, 0, 4, 1, 2), 1);
        check.due("the half day behind it", club.book(0, 0, 6, 1, 2), 2);
        check.due("another machine", club.book(0, 1, 5, 1, 2), 3);
        check.due("that machine again", club.book(1, 1, 5, 1, 2), NOT_POSSIBLE);
        check.due("bookedAt(0, 5)", club.bookedAt(0, 5), 0);
        check.due("bookedAt(0, 4)", club.bookedAt(0, 4), 1);
        check.due("bookedAt(0, 6)", club.bookedAt(0, 6), 2);
        check.due("bookedAt(1, 5)", club.bookedAt(1, 5), 3);
    }

    private void checkAHalfDayIsFreeAgain() {
        check.part("a half day is free again");
        NotedClub club = Clubs.of(1, 50, 1, 1);
        club.book(0, 0, 5, 1, 2);
        club.cancel(0);
        check.due("bookedAt(0, 5), cancelled", club.bookedAt(0, 5), NONE);
        check.due("behind a cancelled one", club.book(0, 0, 5, 2, 2), 1);
        check.due("bookedAt(0, 5)", club.bookedAt(0, 5), 1);
        club.book(0, 1, 5, 3, 2);
        check.due("swap(1, 2)", club.swap(1, 2), 5);
        check.due("still booked", club.book(0, 0, 5, 1, 2), NOT_POSSIBLE);
        check.due("bookedAt(0, 5)", club.bookedAt(0, 5), 2);
        club.setWind(5, 99);
        Clubs.passTo(club, 6);
        check.due("carried over", club.bookedAt(0, 6), 2);
        check.due("booked by a carried one", club.book(0, 0, 6, 1, 2), NOT_POSSIBLE);
        check.due("free behind both", club.book(0, 0, 7, 1, 2), 3);
        check.due("bookedAt(0, 5)", club.bookedAt(0, 5), NONE);
    }
}
