/** Promises 5 to 7: book, cancel, swap. */
public final class BookingsTest {
    private static final int UNKNOWN = BallastClub.UNKNOWN;
    private static final int BAD_VALUE = BallastClub.BAD_VALUE;
    private static final int FULL = BallastClub.FULL;
    private static final int NOT_POSSIBLE = BallastClub.NOT_POSSIBLE;
    private static final int NONE = BallastClub.NONE;

    public static void main(String[] args) {
        Check check = new Check("BookingsTest");
        checkBook(check);
        checkBookFull(check);
        checkCancel(check);
        checkSwap(check);
        checkSwapOfOneMember(check);
        checkSwapOnOneMachine(check);
        check.finish();
    }

    /** Two members; machine 0 bears 150 at 20, machine 1 bears 2000 at 2 and 1090 at 20. */
    private static NotedClub club() {
        NotedClub club = new NotedClub();
        club.addMachine(30, 0);
        club.addMachine(200, 12);
        club.addMember();
        club.addMember();
        return club;
    }

    private static void checkBook(Check check) {
        check.part("promise 5");
        NotedClub club = club();
        club.setWind(7, 42);
        String before = Told.all(club);
        check.refused(club, before, "member -1", club.book(-1, 0, 0, 1, 2), UNKNOWN);
        check.refused(club, before, "member 2", club.book(2, 0, 0, 1, 2), UNKNOWN);
        check.refused(club, before, "machine -1", club.book(0, -1, 0, 1, 2), UNKNOWN);
        check.refused(club, before, "machine 2", club.book(0, 2, 0, 1, 2), UNKNOWN);
        check.refused(club, before, "half day -1", club.book(0, 0, -1, 1, 2), UNKNOWN);
        check.refused(club, before, "half day 200", club.book(0, 0, 200, 0, 1), UNKNOWN);
        check.refused(club, before, "load 0", club.book(0, 0, 0, 0, 2), BAD_VALUE);
        check.refused(club, before, "load 2001", club.book(0, 1, 0, 2001, 2), BAD_VALUE);
        check.refused(club, before, "radius 1", club.book(0, 0, 0, 1, 1), BAD_VALUE);
        check.refused(club, before, "radius 61", club.book(0, 0, 0, 1, 61), BAD_VALUE);
        check.refused(club, before, "radius 0", club.book(0, 0, 0, 2000, 0), BAD_VALUE);
        check.refused(club, before, "load 151 at 20", club.book(0, 0, 0, 151, 20), NOT_POSSIBLE);
        check.due("book(1, 0, 7, 150, 20)", club.book(1, 0, 7, 150, 20), 0);
        check.due("book(0, 1, 7, 2000, 2)", club.book(0, 1, 7, 2000, 2), 1);
        check.due("book(0, 1, 199, 1, 60)", club.book(0, 1, 199, 1, 60), 2);
        int[] told = {1, 0, 7, 150, 20, 0, 42, 0, 43};
        for (int what = 0; what < told.length; what++) {
            check.due("booking(0, " + what + ")", club.booking(0, what), told[what]);
        }
        before = Told.all(club);
        check.refused(club, before, "booked already", club.book(0, 0, 7, 1, 2), NOT_POSSIBLE);
        check.refused(club, before, "booked already, radius 1", club.book(0, 0, 7, 1, 1), BAD_VALUE);
        club.pass(3);
        before = Told.all(club);
        check.refused(club, before, "over", club.book(0, 0, 2, 1, 2), UNKNOWN);
        check.refused(club, before, "over, load 0", club.book(0, 0, 2, 0, 2), UNKNOWN);
        check.due("the present one", club.book(0, 0, 3, 1, 2), 3);
        club.cancel(0);
        check.due("free again", club.book(0, 0, 7, 2, 2), 4);
        check.due("bookedAt(0, 7)", club.bookedAt(0, 7), 4);
    }

    private static void checkBookFull(Check check) {
        check.part("promise 5, full");
        NotedClub club = club();
        for (int booking = 0; booking < 30; booking++) {
            check.due("book", club.book(booking % 2, 0, booking, 1 + booking, 2), booking);
        }
        check.due("count(3)", club.count(3), 30);
        check.due("booking(29, 3)", club.booking(29, 3), 30);
        String before = Told.all(club);
        check.refused(club, before, "a 31st", club.book(0, 0, 30, 1, 2), FULL);
        check.refused(club, before, "a 31st, booked", club.book(0, 0, 29, 1, 2), NOT_POSSIBLE);
        check.refused(club, before, "a 31st, too heavy", club.book(0, 0, 30, 301, 2), NOT_POSSIBLE);
        check.refused(club, before, "a 31st, bad", club.book(0, 0, 30, 0, 2), BAD_VALUE);
        club.cancel(3);
        check.due("no room behind a cancelled one", club.book(0, 0, 3, 1, 2), FULL);
        club.undo();
        club.undo();
        check.due("book after undo", club.book(0, 1, 29, 9, 9), 29);
        check.due("booking(29, 1)", club.booking(29, 1), 1);
        check.due("booking(29, 7)", club.booking(29, 7), 0);
    }

    private static void checkCancel(Check check) {
        check.part("promise 6");
        NotedClub club = club();
        club.book(1, 0, 0, 10, 2);
        club.book(0, 0, 1, 10, 2);
        club.book(1, 0, 2, 10, 2);
        String before = Told.all(club);
        check.refused(club, before, "cancel(-1)", club.cancel(-1), UNKNOWN);
        check.refused(club, before, "cancel(3)", club.cancel(3), UNKNOWN);
        check.due("cancel(0), the present one", club.cancel(0), 4);
        check.due("member(1, 0)", club.member(1, 0), 4);
        check.due("member(0, 0)", club.member(0, 0), 0);
        check.due("booking(0, 5)", club.booking(0, 5), 3);
        check.due("booking(0, 2)", club.booking(0, 2), 0);
        check.due("cancel(2), a later one", club.cancel(2), 0);
        check.due("member(1, 0)", club.member(1, 0), 4);
        check.due("member(1, 4)", club.member(1, 4), 2);
        check.due("count(15)", club.count(15), 4);
        before = Told.all(club);
        check.refused(club, before, "cancel(0) again", club.cancel(0), NOT_POSSIBLE);
        club.pass(2);
        check.due("booking(1, 5)", club.booking(1, 5), 1);
        before = Told.all(club);
        check.refused(club, before, "cancel(1), done", club.cancel(1), NOT_POSSIBLE);
        check.due("bookedAt(0, 2)", club.bookedAt(0, 2), NONE);
    }

    private static void checkSwap(Check check) {
        check.part("promise 7");
        NotedClub club = club();
        club.setWind(5, 20);
        club.book(0, 0, 5, 150, 20);
        club.book(1, 1, 9, 100, 20);
        club.book(1, 1, 10, 151, 20);
        club.setWind(5, 21);
        club.setWind(9, 30);
        String before = Told.all(club);
        check.refused(club, before, "swap(-1, 0)", club.swap(-1, 0), UNKNOWN);
        check.refused(club, before, "swap(0, 3)", club.swap(0, 3), UNKNOWN);
        check.refused(club, before, "swap(3, 3)", club.swap(3, 3), UNKNOWN);
        check.refused(club, before, "swap(0, 0)", club.swap(0, 0), BAD_VALUE);
        check.refused(club, before, "swap(0, 2), too heavy", club.swap(0, 2), NOT_POSSIBLE);
        check.refused(club, before, "swap(2, 0), too heavy", club.swap(2, 0), NOT_POSSIBLE);
        check.due("swap(0, 1)", club.swap(0, 1), 9);
        int[] first = {0, 1, 9, 150, 20, 0, 30, 0};
        int[] second = {1, 0, 5, 100, 20, 0, 21, 0};
        for (int what = 0; what < first.length; what++) {
            check.due("booking(0, " + what + ")", club.booking(0, what), first[what]);
            check.due("booking(1, " + what + ")", club.booking(1, what), second[what]);
        }
        check.due("bookedAt(0, 5)", club.bookedAt(0, 5), 1);
        check.due("bookedAt(1, 9)", club.bookedAt(1, 9), 0);
        check.due("undo()", club.undo(), 3);
        check.due("booking(0, 6)", club.booking(0, 6), 20);
        check.due("booking(1, 6)", club.booking(1, 6), 0);
        club.cancel(1);
        before = Told.all(club);
        check.refused(club, before, "swap(0, 1), cancelled", club.swap(0, 1), NOT_POSSIBLE);
        check.refused(club, before, "swap(1, 0), cancelled", club.swap(1, 0), NOT_POSSIBLE);
        check.refused(club, before, "swap(1, 1), cancelled", club.swap(1, 1), BAD_VALUE);
    }

    private static void checkSwapOfOneMember(Check check) {
        check.part("promise 7, one member");
        NotedClub club = club();
        club.book(0, 1, 3, 20, 10);
        club.book(0, 0, 3, 30, 10);
        check.due("swap(1, 0), one half day", club.swap(1, 0), 3);
        check.due("booking(0, 1)", club.booking(0, 1), 0);
        check.due("booking(1, 1)", club.booking(1, 1), 1);
        club.book(1, 0, 8, 30, 10);
        club.setWind(3, 33);
        check.due("swap(2, 0), one machine", club.swap(2, 0), 3);
        check.due("booking(0, 1)", club.booking(0, 1), 0);
        check.due("booking(0, 2)", club.booking(0, 2), 8);
        check.due("booking(2, 1)", club.booking(2, 1), 0);
        check.due("booking(2, 6)", club.booking(2, 6), 33);
        check.due("booking(2, 0), the member stays", club.booking(2, 0), 1);
    }

    /** Machine 0 lost its ballast after both bookings: neither lift is borne, though each has the machine. */
    private static void checkSwapOnOneMachine(Check check) {
        check.part("promise 7, one machine");
        NotedClub club = new NotedClub();
        club.addMachine(30, 4);
        club.addMachine(30, 0);
        club.addMember();
        club.book(0, 0, 5, 180, 20);
        club.book(0, 0, 6, 100, 20);
        check.due("swap(1, 0)", club.swap(1, 0), 5);
        check.due("swap(1, 0)", club.swap(1, 0), 6);
        club.setWind(5, 3);
        club.order(0, 0, 1, 4, 0);
        club.pass(1);
        String before = Told.all(club);
        check.refused(club, before, "swap(0, 1)", club.swap(0, 1), NOT_POSSIBLE);
        check.refused(club, before, "swap(1, 0)", club.swap(1, 0), NOT_POSSIBLE);
    }
}
