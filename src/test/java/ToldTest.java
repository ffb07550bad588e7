/** Promises 17 to 28: what is told. */
public final class ToldTest {
    private static final int UNKNOWN = BallastClub.UNKNOWN;
    private static final int BAD_VALUE = BallastClub.BAD_VALUE;
    private static final int NOT_POSSIBLE = BallastClub.NOT_POSSIBLE;
    private static final int NONE = BallastClub.NONE;

    public static void main(String[] args) {
        Check check = new Check("ToldTest");
        checkBears(check);
        checkWillBear(check);
        checkWindLimit(check);
        checkMachine(check);
        checkMember(check);
        checkBookingAndMove(check);
        checkBookedAt(check);
        checkMachineFor(check);
        checkFate(check);
        checkFateAtTheEnd(check);
        checkWind(check);
        checkCount(check);
        check.finish();
    }

    private static NotedClub club() {
        NotedClub club = new NotedClub();
        club.addMachine(50, 4);
        club.addMachine(30, 0);
        club.addMachine(200, 12);
        club.addMember();
        club.addMember();
        return club;
    }

    private static void checkBears(Check check) {
        check.part("promise 17");
        NotedClub club = club();
        check.due("bears(0, 20)", club.bears(0, 20), 280);
        check.due("bears(0, 3)", club.bears(0, 3), 500);
        check.due("bears(0, 11)", club.bears(0, 11), 500);
        check.due("bears(0, 12)", club.bears(0, 12), 466);
        check.due("bears(1, 2)", club.bears(1, 2), 300);
        check.due("bears(1, 60)", club.bears(1, 60), 50);
        check.due("bears(1, 59)", club.bears(1, 59), 50);
        check.due("bears(1, 58)", club.bears(1, 58), 51);
        check.due("bears(2, 2)", club.bears(2, 2), 2000);
        check.due("bears(2, 60)", club.bears(2, 60), 363);
        check.due("bears(3, 20)", club.bears(3, 20), UNKNOWN);
        check.due("bears(-1, 1)", club.bears(-1, 1), UNKNOWN);
        check.due("bears(0, 1)", club.bears(0, 1), BAD_VALUE);
        check.due("bears(0, 61)", club.bears(0, 61), BAD_VALUE);
        check.due("bears(0, 0)", club.bears(0, 0), BAD_VALUE);
        club.order(0, 0, 1, 1, 0);
        check.due("open moves don't count", club.bears(0, 20), 280);
        club.pass(1);
        check.due("done ones do", club.bears(0, 20), 272);
    }

    private static void checkWillBear(Check check) {
        check.part("promise 18");
        NotedClub club = club();
        club.order(0, 0, 1, 3, 7);
        club.order(0, 0, 1, 2, 5);
        club.order(0, 1, 0, 1, 7);
        club.order(0, 0, 2, 1, 5);
        String before = Told.all(club);
        check.due("willBear(0, 20, 4)", club.willBear(0, 20, 4), 280);
        check.due("willBear(0, 20, 5)", club.willBear(0, 20, 5), 265);
        check.due("willBear(1, 20, 6)", club.willBear(1, 20, 6), 165);
        check.due("willBear(0, 20, 7)", club.willBear(0, 20, 7), 272);
        check.due("willBear(1, 20, 7)", club.willBear(1, 20, 7), 157);
        check.due("willBear(0, 20, 199)", club.willBear(0, 20, 199), 272);
        check.due("willBear(2, 60, 199)", club.willBear(2, 60, 199), 363);
        check.due("willBear(3, 20, 5)", club.willBear(3, 20, 5), UNKNOWN);
        check.due("willBear(-1, 20, 5)", club.willBear(-1, 20, 5), UNKNOWN);
        check.due("willBear(0, 1, 200)", club.willBear(0, 1, 200), UNKNOWN);
        check.due("willBear(0, 2, -1)", club.willBear(0, 2, -1), UNKNOWN);
        check.due("willBear(0, 1, 5)", club.willBear(0, 1, 5), BAD_VALUE);
        check.due("willBear(0, 61, 5)", club.willBear(0, 61, 5), BAD_VALUE);
        check.holds("willBear() changed something", before.equals(Told.all(club)));
        club.pass(6);
        check.due("over", club.willBear(0, 20, 5), UNKNOWN);
        check.due("over, radius 1", club.willBear(0, 1, 5), UNKNOWN);
        check.due("the present one", club.willBear(0, 20, 6), 265);
        club.order(1, 0, 1, 2, 6);
        check.due("the present one, a move in it", club.willBear(0, 20, 6), 250);
    }

    private static void checkWindLimit(Check check) {
        check.part("promise 19");
        NotedClub club = new NotedClub();
        check.due("windLimit(270, 20)", club.windLimit(270, 20), 37);
        check.due("windLimit(1, 2)", club.windLimit(1, 2), 59);
        check.due("windLimit(19, 3)", club.windLimit(19, 3), 59);
        check.due("windLimit(20, 3)", club.windLimit(20, 3), 58);
        check.due("windLimit(39, 5)", club.windLimit(39, 5), 57);
        check.due("windLimit(960, 4)", club.windLimit(960, 4), 10);
        check.due("windLimit(940, 4)", club.windLimit(940, 4), 11);
        check.due("windLimit(980, 4)", club.windLimit(980, 4), 10);
        check.due("windLimit(2000, 60)", club.windLimit(2000, 60), 10);
        check.due("windLimit(0, 2)", club.windLimit(0, 2), BAD_VALUE);
        check.due("windLimit(2001, 2)", club.windLimit(2001, 2), BAD_VALUE);
        check.due("windLimit(1, 1)", club.windLimit(1, 1), BAD_VALUE);
        check.due("windLimit(1, 61)", club.windLimit(1, 61), BAD_VALUE);
        check.due("windLimit(-20, 2)", club.windLimit(-20, 2), BAD_VALUE);
    }

    private static void checkMachine(Check check) {
        check.part("promise 20");
        NotedClub club = club();
        club.book(0, 0, 0, 1, 2);
        club.book(0, 0, 1, 1, 2);
        club.book(0, 0, 2, 1, 2);
        club.book(0, 1, 1, 1, 2);
        club.cancel(2);
        club.order(1, 0, 1, 1, 0);
        club.order(1, 0, 2, 1, 9);
        club.order(1, 0, 1, 2, 9);
        club.order(1, 1, 0, 1, 9);
        checkRow(check, club, 0, 50, 4, 2, 3, 1, NONE, 0);
        checkRow(check, club, 1, 30, 0, 1, 1, 2, NONE, 0);
        checkRow(check, club, 2, 200, 12, 0, 0, 1, NONE, 0);
        club.pass(1);
        checkRow(check, club, 0, 50, 3, 1, 2, 1, 1, 1);
        checkRow(check, club, 1, 30, 1, 1, 1, 1, NONE, 0);
        club.pass(1);
        checkRow(check, club, 0, 50, 3, 0, 2, 1, 1, 2);
        checkRow(check, club, 1, 30, 1, 0, 1, 1, NONE, 1);
        check.due("machine(0, 7)", club.machine(0, 7), BAD_VALUE);
        check.due("machine(0, -1)", club.machine(0, -1), BAD_VALUE);
        check.due("machine(3, 7)", club.machine(3, 7), UNKNOWN);
        check.due("machine(-1, 0)", club.machine(-1, 0), UNKNOWN);
    }

    private static void checkRow(Check check, NotedClub club, int machine, int... told) {
        for (int what = 0; what < told.length; what++) {
            check.due("machine(" + machine + ", " + what + ")", club.machine(machine, what), told[what]);
        }
    }

    private static void checkMember(Check check) {
        check.part("promise 21");
        NotedClub club = club();
        for (int halfDay = 0; halfDay < 11; halfDay++) {
            club.book(halfDay < 10 ? 0 : 1, 0, halfDay, 1, 2);
        }
        club.setWind(0, 99);
        club.order(1, 0, 1, 1, 50);
        club.order(1, 0, 1, 1, 51);
        club.order(0, 0, 1, 1, 52);
        club.pass(1);
        club.pass(2);
        club.cancel(3);
        club.cancel(5);
        club.cancel(6);
        int[] first = {64, 4, 2, 1, 3, 0, 1};
        int[] second = {0, 1, 0, 0, 0, 0, 2};
        for (int what = 0; what < first.length; what++) {
            check.due("member(0, " + what + ")", club.member(0, what), first[what]);
            check.due("member(1, " + what + ")", club.member(1, what), second[what]);
        }
        check.due("member(0, 7)", club.member(0, 7), BAD_VALUE);
        check.due("member(0, -1)", club.member(0, -1), BAD_VALUE);
        check.due("member(2, 7)", club.member(2, 7), UNKNOWN);
        check.due("member(-1, 0)", club.member(-1, 0), UNKNOWN);
    }

    private static void checkBookingAndMove(Check check) {
        check.part("promises 22 and 23");
        NotedClub club = club();
        club.setWind(8, 8);
        club.book(1, 2, 8, 2000, 10);
        club.order(1, 2, 0, 3, 8);
        int[] told = {1, 2, 8, 2000, 10, 0, 8, 0, 10};
        for (int what = 0; what < told.length; what++) {
            check.due("booking(0, " + what + ")", club.booking(0, what), told[what]);
        }
        check.due("booking(0, 9)", club.booking(0, 9), BAD_VALUE);
        check.due("booking(0, -1)", club.booking(0, -1), BAD_VALUE);
        check.due("booking(1, 0)", club.booking(1, 0), UNKNOWN);
        check.due("booking(-1, 9)", club.booking(-1, 9), UNKNOWN);
        int[] moved = {1, 2, 0, 3, 8};
        for (int what = 0; what < moved.length; what++) {
            check.due("move(0, " + what + ")", club.move(0, what), moved[what]);
        }
        check.due("move(0, 5)", club.move(0, 5), BAD_VALUE);
        check.due("move(0, -1)", club.move(0, -1), BAD_VALUE);
        check.due("move(1, 0)", club.move(1, 0), UNKNOWN);
        check.due("move(-1, 5)", club.move(-1, 5), UNKNOWN);
    }

    private static void checkBookedAt(Check check) {
        check.part("promise 24");
        NotedClub club = club();
        club.book(0, 0, 0, 1, 2);
        club.book(0, 1, 0, 1, 2);
        club.book(0, 1, 199, 1, 2);
        club.book(0, 0, 3, 1, 2);
        check.due("bookedAt(0, 0)", club.bookedAt(0, 0), 0);
        check.due("bookedAt(1, 0)", club.bookedAt(1, 0), 1);
        check.due("bookedAt(1, 199)", club.bookedAt(1, 199), 2);
        check.due("bookedAt(0, 199)", club.bookedAt(0, 199), NONE);
        check.due("bookedAt(2, 0)", club.bookedAt(2, 0), NONE);
        check.due("bookedAt(3, 0)", club.bookedAt(3, 0), UNKNOWN);
        check.due("bookedAt(-1, 0)", club.bookedAt(-1, 0), UNKNOWN);
        check.due("bookedAt(0, 200)", club.bookedAt(0, 200), UNKNOWN);
        check.due("bookedAt(0, -1)", club.bookedAt(0, -1), UNKNOWN);
        club.cancel(3);
        check.due("cancelled", club.bookedAt(0, 3), NONE);
        club.pass(1);
        check.due("done, and over", club.bookedAt(0, 0), NONE);
    }

    private static void checkMachineFor(Check check) {
        check.part("promise 25");
        NotedClub club = club();
        check.due("machineFor(0, 150, 20)", club.machineFor(0, 150, 20), 0);
        check.due("machineFor(0, 280, 20)", club.machineFor(0, 280, 20), 0);
        check.due("machineFor(0, 281, 20)", club.machineFor(0, 281, 20), 2);
        check.due("machineFor(0, 1090, 20)", club.machineFor(0, 1090, 20), 2);
        check.due("machineFor(0, 1091, 20)", club.machineFor(0, 1091, 20), NONE);
        club.book(0, 0, 4, 1, 2);
        check.due("machineFor(4, 150, 20)", club.machineFor(4, 150, 20), 1);
        check.due("machineFor(4, 151, 20)", club.machineFor(4, 151, 20), 2);
        club.book(0, 1, 4, 1, 2);
        club.book(0, 2, 4, 1, 2);
        check.due("all are booked", club.machineFor(4, 1, 2), NONE);
        check.due("machineFor(5, 1, 2)", club.machineFor(5, 1, 2), 0);
        check.due("machineFor(199, 1, 60)", club.machineFor(199, 1, 60), 0);
        check.due("machineFor(200, 0, 1)", club.machineFor(200, 0, 1), UNKNOWN);
        check.due("machineFor(-1, 1, 2)", club.machineFor(-1, 1, 2), UNKNOWN);
        check.due("machineFor(0, 0, 2)", club.machineFor(0, 0, 2), BAD_VALUE);
        check.due("machineFor(0, 2001, 2)", club.machineFor(0, 2001, 2), BAD_VALUE);
        check.due("machineFor(0, 1, 1)", club.machineFor(0, 1, 1), BAD_VALUE);
        check.due("machineFor(0, 1, 61)", club.machineFor(0, 1, 61), BAD_VALUE);
        check.due("no machines", new NotedClub().machineFor(0, 1, 2), NONE);
        club.pass(2);
        check.due("over", club.machineFor(1, 1, 2), UNKNOWN);
        check.due("the present one", club.machineFor(2, 1, 2), 0);
    }

    private static void checkFate(Check check) {
        check.part("promise 26");
        NotedClub club = club();
        club.book(0, 0, 6, 280, 20);
        club.book(0, 0, 8, 280, 20);
        check.due("fate(0)", club.fate(0), 0);
        check.due("fate(-1)", club.fate(-1), UNKNOWN);
        check.due("fate(2)", club.fate(2), UNKNOWN);
        check.due("limit", club.booking(0, 8), 36);
        club.setWind(6, 36);
        check.due("at the limit", club.fate(0), 0);
        club.setWind(6, 37);
        check.due("too strong", club.fate(0), 2);
        check.due("the other one", club.fate(1), 0);
        club.order(1, 0, 1, 1, 7);
        check.due("a move behind it", club.fate(0), 2);
        check.due("a move ahead of the other one", club.fate(1), 1);
        club.order(1, 1, 0, 1, 8);
        check.due("a move back in its half day", club.fate(1), 0);
        club.order(1, 0, 1, 1, 6);
        String before = Told.all(club);
        check.due("a move in its half day", club.fate(0), 1);
        check.due("fate(1)", club.fate(1), 1);
        check.holds("fate() changed something", before.equals(Told.all(club)));
        club.setWind(6, 0);
        check.due("the move alone", club.fate(0), 1);
        club.takeBack(2);
        check.due("taken back", club.fate(0), 0);
        club.setWind(9, 90);
        club.book(0, 1, 9, 1, 2);
        check.due("accepted", club.fate(2), 1);
        club.setWind(9, 59);
        check.due("no more too strong", club.fate(2), 0);
        club.cancel(2);
        check.due("cancelled", club.fate(2), NOT_POSSIBLE);
        check.due("pass(7)", club.pass(7), 1);
        check.due("done", club.fate(0), NOT_POSSIBLE);
        check.due("the move is done, and the next one gives back", club.fate(1), 0);
    }

    private static void checkFateAtTheEnd(Check check) {
        check.part("promise 26, half day 199");
        NotedClub club = club();
        club.book(0, 0, 199, 280, 20);
        check.due("fate(0)", club.fate(0), 0);
        club.order(1, 0, 1, 1, 199);
        check.due("a move in 199", club.fate(0), 1);
        club.takeBack(0);
        club.setWind(199, 99);
        check.due("wind in 199", club.fate(0), 2);
        for (int passed = 0; passed < 9; passed++) {
            club.pass(20);
        }
        club.pass(19);
        check.due("at 199", club.fate(0), 2);
        check.due("cancel(0)", club.cancel(0), 4);
    }

    private static void checkWind(Check check) {
        check.part("promise 27");
        NotedClub club = new NotedClub();
        club.setWind(0, 9);
        club.setWind(199, 99);
        club.pass(20);
        check.due("wind(0), over", club.wind(0), 9);
        check.due("wind(199)", club.wind(199), 99);
        check.due("wind(198)", club.wind(198), 0);
        check.due("wind(-1)", club.wind(-1), UNKNOWN);
        check.due("wind(200)", club.wind(200), UNKNOWN);
        check.due("wind(greatest)", club.wind(Integer.MAX_VALUE), UNKNOWN);
    }

    private static void checkCount(Check check) {
        check.part("promise 28");
        NotedClub club = club();
        for (int halfDay = 0; halfDay < 11; halfDay++) {
            club.book(halfDay % 2, 0, halfDay, 1, 2);
        }
        club.book(0, 1, 0, 1, 2);
        club.setWind(1, 99);
        club.book(1, 1, 1, 1, 2);
        club.order(0, 0, 1, 4, 0);
        club.order(1, 0, 1, 4, 0);
        club.order(1, 2, 1, 4, 0);
        club.order(1, 2, 1, 4, 12);
        club.pass(3);
        club.cancel(7);
        club.cancel(8);
        club.type('a');
        club.type('b');
        int paid = 13 + 5 + 13 + 30 * 4 + 8;
        int[] told = {3, 3, 2, 13, 6, 4, 1, 2, 1, 2, 1, paid, 1, 1, 16, 4, 2};
        for (int what = 0; what < told.length; what++) {
            check.due("count(" + what + ")", club.count(what), told[what]);
        }
        check.due("count(17)", club.count(17), BAD_VALUE);
        check.due("count(-1)", club.count(-1), BAD_VALUE);
        check.due("count(least)", club.count(Integer.MIN_VALUE), BAD_VALUE);
    }
}
