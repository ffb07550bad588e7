/** Promises 18, 20 to 23 and 26 to 28: each number that is told, empty and full, and each sentence at its bounds. */
public final class ToldEdgesTest {
    private static final int UNKNOWN = BallastClub.UNKNOWN;
    private static final int NOT_POSSIBLE = BallastClub.NOT_POSSIBLE;
    private static final int NONE = BallastClub.NONE;

    private final Check check = new Check("ToldEdgesTest");

    public static void main(String[] args) {
        new ToldEdgesTest().run();
    }

    private void run() {
        checkWillBearUpToAHalfDay();
        checkWillBearEarlierFirst();
        checkWillBearByNumbers();
        checkWillBearLeavesOutThoseThatFail();
        checkWillBearTenMoves();
        checkWillBearAsItComes();
        checkFateOfMoves();
        checkFateOfMovesThatFail();
        checkFateOfWind();
        checkFateOfThePresentAndTheLast();
        checkFateAsItComes();
        checkFateBesideOthers();
        checkMachine();
        checkMember();
        checkBookingThatIsCarried();
        checkMove();
        checkWindOfThePast();
        checkCountsOfANewClub();
        checkCountsOfAFullClub();
        checkSums();
        check.finish();
    }

    /** What a machine of strength 60 bears at 60 tells its blocks. */
    private static int borne(int blocks) {
        return (6000 + 150 * blocks) / 60;
    }

    private void willBear(NotedClub club, int halfDay, int... blocks) {
        for (int machine = 0; machine < blocks.length; machine++) {
            check.due("willBear(" + machine + ", 60, " + halfDay + ")", club.willBear(machine, 60, halfDay),
                    borne(blocks[machine]));
        }
    }

    // ---- willBear()

    /** "behind all open moves for a half day and those before it" */
    private void checkWillBearUpToAHalfDay() {
        check.part("willBear() up to a half day");
        NotedClub club = Clubs.of(1, 60, 12, 0);
        willBear(club, 0, 12, 0);
        willBear(club, 199, 12, 0);
        club.order(0, 0, 1, 1, 0);
        club.order(0, 0, 1, 2, 50);
        club.order(0, 0, 1, 4, 199);
        willBear(club, 0, 11, 1);
        willBear(club, 1, 11, 1);
        willBear(club, 49, 11, 1);
        willBear(club, 50, 9, 3);
        willBear(club, 51, 9, 3);
        willBear(club, 198, 9, 3);
        willBear(club, 199, 5, 7);
        check.due("as it stands now", club.bears(0, 60), borne(12));
        check.due("willBear(0, 60, 200)", club.willBear(0, 60, 200), UNKNOWN);
        Clubs.passTo(club, 50);
        check.due("willBear(0, 60, 49)", club.willBear(0, 60, 49), UNKNOWN);
        check.due("as it stands now", club.bears(0, 60), borne(11));
        willBear(club, 50, 9, 3);
        willBear(club, 199, 5, 7);
    }

    /** "the earlier half days first" */
    private void checkWillBearEarlierFirst() {
        check.part("willBear(), the earlier half days first");
        NotedClub club = Clubs.of(1, 60, 0, 12, 0);
        club.order(0, 0, 2, 6, 9);
        club.order(0, 0, 2, 5, 8);
        club.order(0, 1, 0, 6, 7);
        willBear(club, 6, 0, 12, 0);
        willBear(club, 7, 6, 6, 0);
        willBear(club, 8, 1, 6, 5);
        willBear(club, 9, 1, 6, 5);
    }

    /** "of one half day by their numbers" */
    private void checkWillBearByNumbers() {
        check.part("willBear(), by their numbers");
        NotedClub club = Clubs.of(1, 60, 0, 12, 0);
        club.order(0, 1, 0, 6, 7);
        club.order(0, 0, 2, 6, 7);
        willBear(club, 7, 0, 6, 6);
        club = Clubs.of(1, 60, 0, 12, 0);
        club.order(0, 0, 2, 6, 7);
        club.order(0, 1, 0, 6, 7);
        willBear(club, 7, 6, 6, 0);
        club.order(0, 0, 2, 1, 6);
        willBear(club, 7, 6, 6, 0);
        check.due("takeBack(0)", club.takeBack(0), 2);
        club.order(0, 0, 2, 6, 7);
        willBear(club, 7, 0, 6, 6);
    }

    /** "those that would fail are left out" */
    private void checkWillBearLeavesOutThoseThatFail() {
        check.part("willBear(), those that would fail");
        NotedClub club = Clubs.of(1, 60, 3, 10);
        club.order(0, 0, 1, 3, 2);
        willBear(club, 2, 3, 10);
        club.order(0, 0, 1, 2, 2);
        willBear(club, 2, 1, 12);
        club.order(0, 0, 1, 1, 2);
        willBear(club, 2, 1, 12);
        club.order(0, 1, 0, 12, 3);
        willBear(club, 3, 1, 12);
        club.order(0, 1, 0, 11, 3);
        willBear(club, 3, 12, 1);
    }

    private void checkWillBearTenMoves() {
        check.part("willBear(), ten moves");
        NotedClub club = Clubs.of(1, 60, 12, 0);
        for (int move = 0; move < 10; move++) {
            club.order(0, 0, 1, 1, 9 - move);
        }
        for (int halfDay = 0; halfDay < 10; halfDay++) {
            willBear(club, halfDay, 11 - halfDay, 1 + halfDay);
        }
        willBear(club, 10, 2, 10);
        check.due("they are open", club.count(8), 10);
        check.due("nobody pays", club.count(11), 0);
        check.due("none is noted", club.machine(0, 5), NONE);
    }

    /** What willBear() told is what bears() tells when the half day has passed. */
    private void checkWillBearAsItComes() {
        check.part("willBear(), as it comes");
        int[] told = new int[60];
        NotedClub club = manyMoves();
        for (int halfDay = 0; halfDay < 20; halfDay++) {
            for (int machine = 0; machine < 3; machine++) {
                told[3 * halfDay + machine] = club.willBear(machine, 60, halfDay);
            }
        }
        for (int halfDay = 0; halfDay < 20; halfDay++) {
            club.pass(1);
            for (int machine = 0; machine < 3; machine++) {
                check.due("bears(" + machine + ", 60) behind " + halfDay, club.bears(machine, 60),
                        told[3 * halfDay + machine]);
            }
        }
        check.due("some were done", club.count(9), 4);
        check.due("some failed", club.count(10), 6);
    }

    private static NotedClub manyMoves() {
        NotedClub club = Clubs.of(2, 60, 6, 4, 12);
        int[][] moves = {{0, 1, 7, 3}, {0, 1, 6, 4}, {1, 0, 10, 5}, {1, 0, 11, 5}, {2, 1, 12, 2}, {2, 1, 8, 2},
            {1, 2, 4, 1}, {2, 0, 2, 19}, {0, 2, 1, 18}, {1, 2, 3, 6}};
        for (int[] move : moves) {
            club.order(move[3] % 2, move[0], move[1], move[2], move[3]);
        }
        return club;
    }

    // ---- fate()

    private void checkFateOfMoves() {
        for (int halfDay = 3; halfDay <= 6; halfDay++) {
            check.part("fate() with a move at " + halfDay);
            NotedClub club = Clubs.of(2, 50, 2, 0);
            check.due("book", club.book(0, 0, 5, 265, 20), 0);
            club.order(1, 0, 1, 1, halfDay);
            int due = halfDay <= 5 ? 1 : 0;
            check.due("fate(0)", club.fate(0), due);
            check.due("nothing happens", club.count(8), 1);
            check.due("nothing happens", club.count(0), 0);
            check.due("nothing happens", club.booking(0, 7), 0);
            Clubs.passTo(club, 6);
            check.due("it comes so", club.booking(0, 7), due);
        }
    }

    private void checkFateOfMovesThatFail() {
        check.part("fate() with moves that fail");
        NotedClub club = Clubs.of(2, 50, 2, 11);
        club.book(0, 0, 5, 265, 20);
        club.order(1, 0, 1, 2, 4);
        check.due("no room", club.fate(0), 0);
        club.order(1, 1, 0, 10, 3);
        check.due("room, and enough ballast left", club.fate(0), 0);
        club.order(1, 0, 1, 9, 5);
        check.due("too much is taken", club.fate(0), 1);
        club.order(1, 1, 0, 1, 5);
        check.due("given back behind it", club.fate(0), 0);
    }

    /** "2 if nobody did" */
    private void checkFateOfWind() {
        check.part("fate() with wind");
        NotedClub club = Clubs.of(2, 50, 2, 0);
        club.book(0, 0, 5, 265, 20);
        check.due("limit", club.booking(0, 8), 37);
        club.setWind(4, 99);
        club.setWind(6, 99);
        check.due("the wind of other half days", club.fate(0), 0);
        club.setWind(5, 37);
        check.due("at the limit", club.fate(0), 0);
        club.setWind(5, 38);
        check.due("one above the limit", club.fate(0), 2);
        club.order(1, 0, 1, 1, 5);
        check.due("and too little ballast", club.fate(0), 1);
        club.takeBack(0);
        club.book(0, 1, 5, 200, 20);
        club.swap(0, 1);
        check.due("too heavy for that machine", club.booking(0, 1), 0);
        club.cancel(0);
        check.due("book", club.book(1, 0, 5, 265, 20), 2);
        check.due("accepted one above the limit", club.fate(2), 1);
        club.setWind(5, 37);
        check.due("no more above the limit", club.fate(2), 0);
    }

    /** "up to the one that it has now, with it (also 199)" */
    private void checkFateOfThePresentAndTheLast() {
        for (int present : new int[] {0, 198, 199}) {
            for (int halfDay : new int[] {present, 199}) {
                check.part("fate() for " + halfDay + " at " + present);
                NotedClub club = Clubs.passTo(Clubs.of(2, 50, 2, 0), present);
                check.due("book", club.book(0, 0, halfDay, 265, 20), 0);
                check.due("fate(0)", club.fate(0), 0);
                club.order(1, 0, 1, 1, halfDay);
                check.due("a move", club.fate(0), 1);
                club.takeBack(0);
                club.setWind(halfDay, 38);
                check.due("wind", club.fate(0), 2);
                check.due("the present one", club.count(0), present);
            }
        }
    }

    /** What fate() told is what happens. */
    private void checkFateAsItComes() {
        check.part("fate(), as it comes");
        for (int booking = 0; booking < 8; booking++) {
            NotedClub club = Clubs.of(3, 50, 4, 4);
            for (int next = 0; next < 8; next++) {
                club.setWind(next / 2, 38 - next % 3);
                club.book(next % 2, next % 2, next / 2, 280 - next, 20);
                club.setWind(next / 2, 36 + next / 2);
            }
            club.order(2, 0, 1, 1, 2);
            club.order(2, 1, 0, 1, 3);
            int fate = club.fate(booking);
            int halfDay = club.booking(booking, 2);
            for (int other = 0; other < 8; other++) {
                check.due("the others don't matter", club.fate(booking), fate);
                if (other != booking) {
                    club.cancel(other);
                }
            }
            check.due("pass", club.pass(halfDay + 1), fate == 0 ? 1 : 0);
            check.due("caused", club.count(12), fate == 1 ? 1 : 0);
            check.due("caused by nobody", club.count(13), fate == 2 ? 1 : 0);
        }
    }

    /** Others that are carried over can't take its half day, nor does what they pay matter. */
    private void checkFateBesideOthers() {
        check.part("fate() beside others");
        NotedClub club = Clubs.of(1, 50, 2);
        for (int halfDay = 0; halfDay < 5; halfDay++) {
            club.book(0, 0, halfDay, 1, 2);
        }
        club.setWind(0, 99);
        club.setWind(1, 99);
        check.due("fate(0)", club.fate(0), 2);
        check.due("fate(1)", club.fate(1), 2);
        check.due("fate(2)", club.fate(2), 0);
        check.due("fate(4)", club.fate(4), 0);
        club.pass(1);
        check.due("booking(0, 2)", club.booking(0, 2), 5);
        check.due("fate(0)", club.fate(0), 0);
        club.pass(1);
        check.due("fate(1)", club.fate(1), 0);
        check.due("pass(3)", club.pass(3), 3);
        check.due("fate(4)", club.fate(4), NOT_POSSIBLE);
    }

    // ---- what is told of one

    private void told(String name, int[] due, int... got) {
        for (int what = 0; what < due.length; what++) {
            check.due(name + ", " + what, got[what], due[what]);
        }
    }

    private void machine(NotedClub club, int machine, int... due) {
        int[] got = new int[7];
        for (int what = 0; what < 7; what++) {
            got[what] = club.machine(machine, what);
        }
        told("machine " + machine, due, got);
    }

    private void member(NotedClub club, int member, int... due) {
        int[] got = new int[7];
        for (int what = 0; what < 7; what++) {
            got[what] = club.member(member, what);
        }
        told("member " + member, due, got);
    }

    private void checkMachine() {
        check.part("machine()");
        NotedClub club = Clubs.of(2, 60, 12, 0, 5);
        machine(club, 0, 60, 12, 0, 0, 0, NONE, 0);
        for (int booking = 0; booking < 30; booking++) {
            club.book(0, 0, booking, 1, 2);
        }
        for (int move = 0; move < 10; move++) {
            club.order(1, 0, 1, 1, 2 * move);
        }
        machine(club, 0, 60, 12, 30, 10, 0, NONE, 0);
        machine(club, 1, 60, 0, 0, 0, 10, NONE, 0);
        machine(club, 2, 60, 5, 0, 0, 0, NONE, 0);
        club.cancel(29);
        check.due("pass(20)", club.pass(20), 20);
        machine(club, 0, 60, 2, 9, 0, 0, 1, 20);
        machine(club, 1, 60, 10, 0, 0, 0, NONE, 0);
        check.due("pass(9)", club.pass(9), 9);
        machine(club, 0, 60, 2, 0, 0, 0, 1, 29);
    }

    private void checkMember() {
        check.part("member()");
        NotedClub club = Clubs.of(3, 60, 12, 0);
        member(club, 0, 0, 0, 0, 0, 0, 0, 0);
        club.setWind(0, 70);
        for (int booking = 0; booking < 30; booking++) {
            club.book(1, 0, booking, 1, 2);
        }
        for (int move = 0; move < 10; move++) {
            club.order(2, 0, 1, 2, 5);
        }
        member(club, 1, 0, 30, 0, 0, 0, 0, 0);
        member(club, 2, 0, 0, 0, 0, 0, 0, 10);
        club.pass(1);
        member(club, 1, 8, 29, 0, 1, 0, 1, 0);
        club.cancel(1);
        club.cancel(2);
        member(club, 1, 12, 27, 0, 1, 2, 1, 0);
        check.due("pass(6)", club.pass(6), 4);
        member(club, 1, 132, 23, 4, 1, 2, 1, 0);
        member(club, 2, 6 * 9 + 4 * 5, 0, 0, 0, 0, 0, 0);
        member(club, 0, 0, 0, 0, 0, 0, 0, 0);
        check.due("all that was paid", club.count(11), 132 + 74);
    }

    private void checkBookingThatIsCarried() {
        check.part("booking()");
        NotedClub club = Clubs.of(2, 60, 12, 0);
        club.setWind(3, 25);
        club.book(1, 1, 2, 100, 60);
        club.setWind(2, 26);
        told("booked", new int[] {1, 1, 2, 100, 60, 0, 0, 0, 25}, all(club, 0));
        Clubs.passTo(club, 3);
        told("carried over", new int[] {1, 1, 3, 100, 60, 0, 25, 1, 25}, all(club, 0));
        club.pass(1);
        told("done", new int[] {1, 1, 3, 100, 60, 1, 25, 1, 25}, all(club, 0));
        Clubs.passTo(club, 20);
        told("much later", new int[] {1, 1, 3, 100, 60, 1, 25, 1, 25}, all(club, 0));
    }

    private static int[] all(NotedClub club, int booking) {
        int[] got = new int[9];
        for (int what = 0; what < 9; what++) {
            got[what] = club.booking(booking, what);
        }
        return got;
    }

    private void checkMove() {
        check.part("move()");
        NotedClub club = Clubs.of(8, 60, 1, 1, 1, 1, 1);
        club.order(7, 4, 0, 12, 199);
        club.order(0, 0, 4, 1, 0);
        int[][] due = {{7, 4, 0, 12, 199}, {0, 0, 4, 1, 0}};
        for (int move = 0; move < 2; move++) {
            for (int what = 0; what < 5; what++) {
                check.due("move(" + move + ", " + what + ")", club.move(move, what), due[move][what]);
            }
        }
        club.pass(1);
        check.due("move(1, 0), done", club.move(1, 0), UNKNOWN);
        check.due("move(0, 4)", club.move(0, 4), 199);
        check.due("takeBack(0)", club.takeBack(0), 0);
        check.due("move(0, 0), taken back", club.move(0, 0), UNKNOWN);
        check.due("count(9)", club.count(9), 1);
        check.due("count(10)", club.count(10), 0);
        check.due("only the done one was paid", club.count(11), 7);
    }

    private void checkWindOfThePast() {
        check.part("wind()");
        NotedClub club = new NotedClub();
        Clubs.type(club, "0:1;1:99;198:2;199:98").readWinds();
        Clubs.passTo(club, 199);
        int[][] due = {{-1, UNKNOWN}, {0, 1}, {1, 99}, {2, 0}, {197, 0}, {198, 2}, {199, 98}, {200, UNKNOWN}};
        for (int[] one : due) {
            check.due("wind(" + one[0] + ")", club.wind(one[0]), one[1]);
        }
        check.due("setWind(198, 3), over", club.setWind(198, 3), UNKNOWN);
        check.due("wind(198)", club.wind(198), 2);
    }

    // ---- count()

    private void counts(NotedClub club, int... due) {
        int[] got = new int[17];
        for (int what = 0; what < 17; what++) {
            got[what] = club.count(what);
        }
        told("count", due, got);
    }

    private void checkCountsOfANewClub() {
        check.part("count() of a new club");
        counts(new NotedClub(), 0, 0, 0, 0, 0, 0, 0, 0, 0, 0, 0, 0, 0, 0, 0, 0, 0);
        counts(Clubs.of(8, 60), 0, 0, 8, 0, 0, 0, 0, 0, 0, 0, 0, 0, 0, 0, 0, 4, 0);
    }

    private void checkCountsOfAFullClub() {
        check.part("count() of a full club");
        NotedClub club = Clubs.of(8, 60, 12, 12, 12, 12, 12);
        for (int booking = 0; booking < 30; booking++) {
            club.book(booking % 8, booking % 2, booking / 2, 1, 2);
        }
        for (int move = 0; move < 10; move++) {
            club.order(move % 8, 4, 3, 12, 14);
        }
        for (int typed = 0; typed < 60; typed++) {
            club.type('x');
        }
        counts(club, 0, 5, 8, 30, 30, 0, 0, 0, 10, 0, 0, 0, 0, 0, 60, 4, 60);
        club.setWind(0, 99);
        club.pass(1);
        counts(club, 1, 5, 8, 30, 28, 0, 2, 0, 10, 0, 0, 0, 0, 2, 60, 4, 60);
        club.cancel(29);
        check.due("pass(14)", club.pass(14), 27);
        counts(club, 15, 5, 8, 30, 0, 27, 2, 1, 0, 0, 10, 27 * 30 + 10 * 5, 0, 2, 60, 4, 60);
    }

    /** What all members paid and caused together, and those that nobody caused. */
    private void checkSums() {
        check.part("sums of count()");
        NotedClub club = Clubs.of(3, 50, 2, 0);
        club.setWind(0, 38);
        club.book(0, 0, 0, 265, 20);
        club.book(1, 1, 0, 250, 20);
        club.book(2, 1, 1, 1, 2);
        club.setWind(0, 39);
        club.order(2, 0, 1, 2, 0);
        club.order(1, 1, 0, 3, 0);
        club.setWind(1, 60);
        check.due("fate(0), by ballast", club.fate(0), 1);
        check.due("fate(1), at the limit", club.fate(1), 2);
        check.due("fate(2)", club.fate(2), 2);
        check.due("pass(1)", club.pass(1), 0);
        counts(club, 1, 2, 3, 3, 3, 0, 0, 0, 0, 1, 1, 9 + 5 + 8, 1, 1, 2, 4, 0);
        check.due("pass(1)", club.pass(1), 0);
        counts(club, 2, 2, 3, 3, 3, 0, 0, 0, 0, 1, 1, 22 + 8, 2, 2, 2, 4, 0);
        check.due("pass(1)", club.pass(1), 1);
        counts(club, 3, 2, 3, 3, 2, 1, 0, 0, 0, 1, 1, 30 + 8 + 30, 3, 2, 2, 4, 0);
        member(club, 0, 0, 1, 0, 0, 0, 0, 0);
        member(club, 1, 5 + 30, 0, 1, 0, 0, 0, 0);
        member(club, 2, 9 + 24, 1, 0, 0, 0, 3, 0);
    }
}
