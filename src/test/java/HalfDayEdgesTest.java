/** "Terms", "A HALF DAY PASSES": each of its sentences at its bounds. */
public final class HalfDayEdgesTest {
    private static final int UNKNOWN = BallastClub.UNKNOWN;
    private static final int NOT_POSSIBLE = BallastClub.NOT_POSSIBLE;
    private static final int NONE = BallastClub.NONE;

    private final Check check = new Check("HalfDayEdgesTest");

    public static void main(String[] args) {
        new HalfDayEdgesTest().run();
    }

    private void run() {
        checkSoManyBlocks();
        checkRoomForBlocks();
        checkNeitherBlocksNorRoom();
        checkBlocksOfOthers();
        checkMovesByTheirNumbers();
        checkMovesOfItAlone();
        checkMovesFirst();
        checkNotedAtFirst();
        checkNotedLatest();
        checkLoadAtWhatIsBorne();
        checkLoadAtTheCap();
        checkNotedMemberPays();
        checkWindAtTheLimit();
        checkWindAtTheLeastLimit();
        checkAcceptedAtTheLimit();
        checkAcceptedAlone();
        checkBallastAheadOfWind();
        checkCarriedToEach();
        checkNotCarriedTooFar();
        checkWhatLeavesRoom();
        checkOtherMachinesLeaveRoom();
        checkCarriedAtTheEnd();
        checkGivenUpAsItWas();
        checkCarriedAgainAndAgain();
        checkAcceptedWhenCarried();
        checkManyOnStandby();
        checkLiftsAreCounted();
        checkOneAfterTheOther();
        checkTheLastHalfDayStays();
        check.finish();
    }

    // ---- 1. the open moves

    /** "if the one machine has so many blocks [...] the move is done, and its member pays 5 coins and 2 for each" */
    private void checkSoManyBlocks() {
        for (int blocks = 1; blocks <= 12; blocks++) {
            check.part("a move of " + blocks + " blocks, as many as there are");
            NotedClub club = Clubs.of(1, 50, blocks, 0);
            check.due("order", club.order(0, 0, 1, blocks, 0), 0);
            check.due("pass(1)", club.pass(1), 0);
            checkMoves(club, 1, 0, 5 + 2 * blocks);
            checkBlocks(club, 0, blocks);
            check.due("noted", club.machine(0, 5), 0);
            check.part("a move of " + blocks + " blocks, one more than there are");
            club = Clubs.of(1, 50, blocks - 1, 0);
            club.order(0, 0, 1, blocks, 0);
            club.pass(1);
            checkMoves(club, 0, 1, 5);
            checkBlocks(club, blocks - 1, 0);
            check.due("noted", club.machine(0, 5), NONE);
        }
    }

    /** "and the other one would not have more than 12" */
    private void checkRoomForBlocks() {
        for (int blocks = 1; blocks <= 12; blocks++) {
            check.part("a move of " + blocks + " blocks, up to 12");
            NotedClub club = Clubs.of(1, 50, 12 - blocks, 12);
            check.due("order", club.order(0, 1, 0, blocks, 0), 0);
            club.pass(1);
            checkMoves(club, 1, 0, 5 + 2 * blocks);
            checkBlocks(club, 12, 12 - blocks);
            check.part("a move of " + blocks + " blocks, up to 13");
            club = Clubs.of(1, 50, 13 - blocks, 12);
            club.order(0, 1, 0, blocks, 0);
            club.pass(1);
            checkMoves(club, 0, 1, 5);
            checkBlocks(club, 13 - blocks, 12);
        }
    }

    private void checkNeitherBlocksNorRoom() {
        check.part("neither blocks nor room");
        NotedClub club = Clubs.of(1, 50, 0, 12);
        club.order(0, 0, 1, 12, 0);
        club.pass(1);
        checkMoves(club, 0, 1, 5);
        checkBlocks(club, 0, 12);
    }

    private void checkMoves(NotedClub club, int done, int failed, int paid) {
        check.due("done", club.count(9), done);
        check.due("failed", club.count(10), failed);
        check.due("open", club.count(8), 0);
        check.due("member(0, 0)", club.member(0, 0), paid);
        check.due("member(0, 6)", club.member(0, 6), 0);
        check.due("count(11)", club.count(11), paid);
        check.due("move(0, 0)", club.move(0, 0), UNKNOWN);
    }

    private void checkBlocks(NotedClub club, int... blocks) {
        int all = 0;
        for (int machine = 0; machine < blocks.length; machine++) {
            check.due("machine(" + machine + ", 1)", club.machine(machine, 1), blocks[machine]);
            all += blocks[machine];
        }
        check.due("count(14)", club.count(14), all);
    }

    private void checkBlocksOfOthers() {
        check.part("the blocks of other machines don't count");
        NotedClub club = Clubs.of(1, 50, 12, 3, 12, 4, 12);
        club.order(0, 1, 3, 3, 0);
        club.order(0, 1, 3, 1, 0);
        club.order(0, 2, 4, 1, 0);
        club.pass(1);
        checkBlocks(club, 12, 0, 12, 7, 12);
        check.due("done", club.count(9), 1);
        check.due("failed", club.count(10), 2);
        check.due("count(11)", club.count(11), 11 + 5 + 5);
    }

    /** "The open moves for it, by their numbers" */
    private void checkMovesByTheirNumbers() {
        check.part("the first one makes the second one possible");
        NotedClub club = Clubs.of(1, 50, 12, 0, 12);
        club.order(0, 0, 1, 12, 0);
        club.order(0, 2, 0, 12, 0);
        club.order(0, 1, 2, 12, 0);
        club.pass(1);
        checkBlocks(club, 12, 0, 12);
        check.due("done", club.count(9), 3);
        check.part("the first one comes too early");
        club = Clubs.of(1, 50, 12, 0, 12);
        club.order(0, 2, 0, 12, 0);
        club.order(0, 1, 2, 12, 0);
        club.order(0, 0, 1, 12, 0);
        club.pass(1);
        checkBlocks(club, 0, 12, 12);
        check.due("done", club.count(9), 1);
        check.due("failed", club.count(10), 2);
        check.part("the numbers after one is taken back");
        club = Clubs.of(2, 50, 1, 0, 0);
        club.order(0, 0, 2, 12, 9);
        club.order(0, 0, 1, 1, 0);
        club.order(1, 0, 2, 1, 0);
        club.takeBack(0);
        club.pass(1);
        checkBlocks(club, 0, 1, 0);
        check.due("noted", club.machine(0, 5), 0);
    }

    /** Moves for the present half day, not for the one behind it. */
    private void checkMovesOfItAlone() {
        check.part("the moves for it");
        NotedClub club = Clubs.of(1, 50, 12, 0);
        club.order(0, 0, 1, 1, 2);
        club.order(0, 0, 1, 2, 1);
        club.order(0, 0, 1, 4, 0);
        club.pass(1);
        checkBlocks(club, 8, 4);
        check.due("open", club.count(8), 2);
        club.pass(1);
        checkBlocks(club, 6, 6);
        check.due("open", club.count(8), 1);
        check.due("move(0, 4)", club.move(0, 4), 2);
        club.pass(1);
        checkBlocks(club, 5, 7);
        check.due("open", club.count(8), 0);
        check.due("ordered for the present one", club.order(0, 1, 0, 7, 3), 0);
        club.pass(1);
        checkBlocks(club, 12, 0);
    }

    /** The bookings find the machines as the moves of the same half day left them. */
    private void checkMovesFirst() {
        check.part("moves ahead of bookings");
        NotedClub club = Clubs.of(1, 50, 1, 0);
        check.due("book", club.book(0, 0, 0, 257, 20), 0);
        club.order(0, 0, 1, 1, 0);
        check.due("pass(1)", club.pass(1), 0);
        check.due("on standby", club.booking(0, 7), 1);
        club.order(0, 1, 0, 1, 1);
        check.due("borne again", club.pass(1), 1);
        check.due("done", club.booking(0, 5), 1);
        club = Clubs.of(1, 50, 1, 0);
        club.book(0, 0, 0, 257, 20);
        club.order(0, 0, 1, 1, 1);
        check.due("a move one half day behind it", club.pass(1), 1);
    }

    // ---- "which member ordered the latest move that was done, whenever that was, and took blocks from it"

    private void checkNotedAtFirst() {
        check.part("none is noted at first");
        NotedClub club = Clubs.of(2, 50, 1, 0);
        check.due("a new machine", club.machine(0, 5), NONE);
        club.order(1, 0, 1, 1, 1);
        check.due("an open move", club.machine(0, 5), NONE);
        club.order(0, 0, 1, 2, 0);
        club.pass(1);
        check.due("a move that failed", club.machine(0, 5), NONE);
        club.pass(1);
        check.due("a move that was done", club.machine(0, 5), 1);
        check.due("a machine that got blocks", club.machine(1, 5), NONE);
    }

    private void checkNotedLatest() {
        check.part("the latest one is noted");
        NotedClub club = Clubs.of(3, 50, 3, 0);
        club.order(2, 0, 1, 1, 0);
        club.order(0, 0, 1, 1, 0);
        club.order(1, 0, 1, 9, 0);
        club.pass(1);
        check.due("the last of a half day that was done", club.machine(0, 5), 0);
        club.order(1, 1, 0, 2, 1);
        club.pass(1);
        check.due("getting blocks changes nothing", club.machine(0, 5), 0);
        check.due("machine(1, 5)", club.machine(1, 5), 1);
        Clubs.passTo(club, 199);
        check.due("whenever that was", club.machine(0, 5), 0);
        check.due("whenever that was", club.machine(1, 5), 1);
    }

    // ---- 2. the bookings

    /** "If the load is more than the machine bears as it stands now": as much is done, one more isn't. */
    private void checkLoadAtWhatIsBorne() {
        for (int radius = 6; radius <= 60; radius++) {
            check.part("a load at what is borne behind a move, radius " + radius);
            int behind = Math.min(500, 5000 / radius);
            NotedClub club = Clubs.of(2, 50, 10, 0);
            check.due("book", club.book(0, 0, 0, behind, radius), 0);
            club.order(1, 0, 1, 10, 0);
            check.due("fate(0)", club.fate(0), 0);
            check.due("as much as it bears", club.pass(1), 1);
            check.due("done", club.booking(0, 5), 1);
            check.due("member(0, 0)", club.member(0, 0), 30);
            check.due("member(1, 0)", club.member(1, 0), 25);
            if (behind == 500) {
                continue;
            }
            club = Clubs.of(2, 50, 10, 0);
            check.due("book", club.book(0, 0, 0, behind + 1, radius), 0);
            club.order(1, 0, 1, 10, 0);
            check.due("fate(0)", club.fate(0), 1);
            check.due("one more than it bears", club.pass(1), 0);
            check.due("carried over", club.booking(0, 2), 1);
            check.due("member(0, 0)", club.member(0, 0), 0);
            check.due("member(1, 0)", club.member(1, 0), 25 + 8);
        }
    }

    /** "but at most strength * 10": ballast that isn't needed may go. */
    private void checkLoadAtTheCap() {
        check.part("a load at the cap");
        NotedClub club = Clubs.of(1, 50, 12, 0);
        check.due("book", club.book(0, 0, 0, 500, 10), 0);
        check.due("book", club.book(0, 0, 1, 500, 11), 1);
        club.order(0, 0, 1, 12, 0);
        check.due("pass(1)", club.pass(1), 1);
        check.due("booking(0, 5)", club.booking(0, 5), 1);
        check.due("pass(1)", club.pass(1), 0);
        check.due("booking(1, 7)", club.booking(1, 7), 1);
    }

    /** "the member who is noted for the machine caused it"; "Whoever caused a standby pays 8 coins." */
    private void checkNotedMemberPays() {
        check.part("the noted member pays");
        NotedClub club = Clubs.of(3, 50, 2, 0, 1);
        club.book(0, 0, 1, 265, 20);
        club.book(1, 2, 1, 257, 20);
        club.order(2, 0, 1, 1, 0);
        club.order(1, 0, 1, 1, 0);
        club.order(0, 0, 1, 1, 0);
        club.order(1, 2, 1, 1, 0);
        club.pass(1);
        check.due("pass(1)", club.pass(1), 0);
        check.due("an earlier taker", club.member(2, 0), 7);
        check.due("whose move failed", club.member(0, 0), 5);
        check.due("the latest taker, also from its own booking", club.member(1, 0), 7 + 7 + 8 + 8);
        check.due("member(2, 5)", club.member(2, 5), 0);
        check.due("member(0, 5)", club.member(0, 5), 0);
        check.due("member(1, 5)", club.member(1, 5), 2);
        check.due("count(12)", club.count(12), 2);
        check.due("count(13)", club.count(13), 0);
    }

    /** "if the wind is greater than the wind limit of the lift, it is on standby" */
    private void checkWindAtTheLimit() {
        check.part("wind at the limit");
        NotedClub club = Clubs.of(1, 50, 0);
        check.due("book", club.book(0, 0, 0, 100, 20), 0);
        check.due("limit", club.booking(0, 8), 45);
        club.setWind(0, 45);
        check.due("fate(0)", club.fate(0), 0);
        check.due("at the limit", club.pass(1), 1);
        check.due("undo()", club.undo(), 3);
        club.setWind(0, 46);
        check.due("fate(0)", club.fate(0), 2);
        check.due("one above the limit", club.pass(1), 0);
        check.due("nobody caused it", club.count(13), 1);
        check.due("nobody pays", club.count(11), 0);
        check.due("nobody caused it", club.count(12), 0);
    }

    private void checkWindAtTheLeastLimit() {
        check.part("wind at the least limit");
        NotedClub club = Clubs.of(1, 200, 12);
        club.book(0, 0, 0, 2000, 2);
        check.due("limit", club.booking(0, 8), 10);
        club.setWind(0, 10);
        check.due("at the limit", club.pass(1), 1);
        check.due("undo()", club.undo(), 3);
        club.setWind(0, 11);
        check.due("one above the limit", club.pass(1), 0);
        check.due("count(13)", club.count(13), 1);
    }

    /** "Its own member caused it if the accepted wind was greater than the limit, too; otherwise nobody did." */
    private void checkAcceptedAtTheLimit() {
        check.part("accepted wind at the limit");
        NotedClub club = Clubs.of(1, 50, 0);
        club.setWind(0, 45);
        club.book(0, 0, 0, 100, 20);
        club.setWind(0, 99);
        check.due("fate(0)", club.fate(0), 2);
        club.pass(1);
        check.due("nobody caused it", club.count(13), 1);
        check.due("member(0, 0)", club.member(0, 0), 0);
        check.part("accepted wind one above the limit");
        club = Clubs.of(1, 50, 0);
        club.setWind(0, 46);
        club.book(0, 0, 0, 100, 20);
        check.due("fate(0)", club.fate(0), 1);
        club.pass(1);
        check.due("its own member caused it", club.member(0, 5), 1);
        check.due("count(12)", club.count(12), 1);
        check.due("count(13)", club.count(13), 0);
        check.due("member(0, 0)", club.member(0, 0), 8);
        check.due("carried over", club.booking(0, 5), 0);
    }

    /** What was accepted counts only if the wind is too strong now. */
    private void checkAcceptedAlone() {
        check.part("accepted wind without wind");
        NotedClub club = Clubs.of(1, 50, 0);
        club.setWind(0, 99);
        club.book(0, 0, 0, 100, 20);
        club.setWind(0, 45);
        check.due("fate(0)", club.fate(0), 0);
        check.due("pass(1)", club.pass(1), 1);
        check.due("booking(0, 6)", club.booking(0, 6), 99);
        check.due("member(0, 0)", club.member(0, 0), 30);
    }

    private void checkBallastAheadOfWind() {
        check.part("both ballast and wind");
        for (int wind : new int[] {0, 99}) {
            NotedClub club = Clubs.of(2, 50, 1, 0);
            club.setWind(0, wind);
            club.book(0, 0, 0, 257, 20);
            club.setWind(0, 99);
            club.order(1, 0, 1, 1, 0);
            check.due("fate(0)", club.fate(0), 1);
            club.pass(1);
            check.due("its own member", club.member(0, 0), 0);
            check.due("the taker", club.member(1, 0), 7 + 8);
            check.due("one standby", club.booking(0, 7), 1);
            check.due("count(12)", club.count(12), 1);
            check.due("count(13)", club.count(13), 0);
        }
    }

    // ---- carried over

    /** A booking for half day 0 and more for the next ones, as many as told; half day 0 will be too windy. */
    private static NotedClub booked(int following) {
        NotedClub club = Clubs.of(1, 50, 0);
        for (int halfDay = 0; halfDay <= following; halfDay++) {
            club.book(0, 0, halfDay, 1, 2);
        }
        club.setWind(0, 99);
        return club;
    }

    /** "the first of the next 9 half days" */
    private void checkCarriedToEach() {
        for (int following = 0; following <= 8; following++) {
            check.part(following + " of the next half days are booked");
            NotedClub club = booked(following);
            check.due("pass(1)", club.pass(1), 0);
            check.due("its half day", club.booking(0, 2), following + 1);
            check.due("its machine", club.booking(0, 1), 0);
            check.due("its state", club.booking(0, 5), 0);
            check.due("its standbys", club.booking(0, 7), 1);
            check.due("bookedAt", club.bookedAt(0, following + 1), 0);
            check.due("given up", club.count(6), 0);
        }
        for (int free = 1; free <= 9; free++) {
            check.part("half day " + free + " alone is free");
            NotedClub club = booked(10);
            club.cancel(free);
            club.pass(1);
            check.due("its half day", club.booking(0, 2), free);
        }
        check.part("half days 4 and 7 are free");
        NotedClub club = booked(10);
        club.cancel(7);
        club.cancel(4);
        club.pass(1);
        check.due("its half day", club.booking(0, 2), 4);
    }

    /** "if there is none, it is given up" */
    private void checkNotCarriedTooFar() {
        check.part("9 of the next half days are booked");
        NotedClub club = booked(9);
        check.due("bookedAt(0, 10)", club.bookedAt(0, 10), NONE);
        check.due("pass(1)", club.pass(1), 0);
        check.due("given up", club.booking(0, 5), 2);
        check.due("count(6)", club.count(6), 1);
        check.due("count(4)", club.count(4), 9);
        check.due("bookedAt(0, 10)", club.bookedAt(0, 10), NONE);
        check.due("cancel(0)", club.cancel(0), NOT_POSSIBLE);
        check.due("fate(0)", club.fate(0), NOT_POSSIBLE);
        check.due("swap(0, 1)", club.swap(0, 1), NOT_POSSIBLE);
        check.due("pass(9)", club.pass(9), 9);
    }

    /** "for which there is no booking in the state 0": others leave room. */
    private void checkWhatLeavesRoom() {
        check.part("bookings that are ended leave room");
        NotedClub club = booked(9);
        club.cancel(1);
        club.book(0, 0, 1, 1, 2);
        club.pass(1);
        check.due("given up beside a cancelled one", club.booking(0, 5), 2);
        club = booked(9);
        club.cancel(9);
        club.pass(1);
        check.due("carried to a cancelled one", club.booking(0, 2), 9);
        club.undo();
        check.due("swap(0, 8)", club.swap(0, 8), 8);
        club.pass(1);
        check.due("carried over, also behind a swap", club.booking(8, 2), 9);
    }

    private void checkOtherMachinesLeaveRoom() {
        check.part("other machines leave room");
        NotedClub club = Clubs.of(1, 50, 0, 0);
        for (int halfDay = 0; halfDay <= 9; halfDay++) {
            club.book(0, 1, halfDay, 1, 2);
        }
        club.book(0, 0, 0, 1, 2);
        club.setWind(0, 99);
        club.pass(1);
        check.due("machine 1 is booked", club.booking(0, 5), 2);
        check.due("machine 0 isn't", club.booking(10, 2), 1);
        check.due("booking(10, 1)", club.booking(10, 1), 0);
    }

    /** "behind the present one, up to 199" */
    private void checkCarriedAtTheEnd() {
        for (int present = 188; present <= 198; present++) {
            check.part("carried over from " + present);
            int last = Math.min(present + 9, 199);
            NotedClub club = Clubs.passTo(Clubs.of(1, 50, 0), present);
            for (int halfDay = present; halfDay < last; halfDay++) {
                club.book(0, 0, halfDay, 1, 2);
            }
            club.setWind(present, 99);
            check.due("pass(1)", club.pass(1), 0);
            check.due("to the last one", club.booking(0, 2), last);
            check.due("booked", club.booking(0, 5), 0);
            club.undo();
            club.book(0, 0, last, 1, 2);
            check.due("pass(1)", club.pass(1), 0);
            check.due("the last one is booked", club.booking(0, 5), 2);
            check.due("it stays where it was", club.booking(0, 2), present);
        }
    }

    /** booking(): "the last one that it had, if it is not booked any more" */
    private void checkGivenUpAsItWas() {
        check.part("given up");
        NotedClub club = booked(9);
        club.setWind(0, 98);
        club.pass(1);
        int[] told = {0, 0, 0, 1, 2, 2, 0, 1, 59};
        for (int what = 0; what < told.length; what++) {
            check.due("booking(0, " + what + ")", club.booking(0, what), told[what]);
        }
        check.due("standbys of nobody", club.count(13), 1);
        club = Clubs.of(1, 50, 0);
        club.setWind(0, 60);
        for (int halfDay = 0; halfDay <= 9; halfDay++) {
            club.book(0, 0, halfDay, 1, 2);
        }
        club.pass(1);
        check.due("who caused it pays, also if it is given up", club.member(0, 0), 8);
        check.due("member(0, 3)", club.member(0, 3), 1);
        check.due("member(0, 5)", club.member(0, 5), 1);
        check.due("the accepted wind stays", club.booking(0, 6), 60);
    }

    /** A booking that is carried over may be on standby the next half day, within one call of pass(). */
    private void checkCarriedAgainAndAgain() {
        check.part("carried over again and again");
        NotedClub club = Clubs.of(1, 50, 0);
        Clubs.type(club, "0:60;1:60;2:60;3:60;4:60;5:60;6:60;7:60;8:60;9:60;10:60");
        check.due("readWinds()", club.readWinds(), 11);
        club.book(0, 0, 0, 1, 2);
        check.due("pass(11)", club.pass(11), 0);
        check.due("its standbys", club.booking(0, 7), 11);
        check.due("its half day", club.booking(0, 2), 11);
        check.due("member(0, 5)", club.member(0, 5), 11);
        check.due("member(0, 0)", club.member(0, 0), 88);
        check.due("count(12)", club.count(12), 11);
        check.due("pass(1)", club.pass(1), 1);
        check.due("member(0, 0)", club.member(0, 0), 118);
        check.due("its standbys", club.booking(0, 7), 11);
    }

    /** "notes the wind that was told for its half day when it got this half day" */
    private void checkAcceptedWhenCarried() {
        check.part("accepted when carried over");
        NotedClub club = Clubs.of(1, 50, 0);
        club.book(0, 0, 0, 100, 20);
        check.due("booked at no wind", club.booking(0, 6), 0);
        club.setWind(0, 50);
        club.setWind(1, 45);
        club.setWind(2, 46);
        check.due("the accepted wind stays", club.booking(0, 6), 0);
        club.pass(1);
        check.due("of the half day that it gets", club.booking(0, 6), 45);
        club.setWind(1, 99);
        check.due("the accepted wind stays", club.booking(0, 6), 45);
        club.pass(1);
        check.due("the limit was accepted: nobody caused it", club.count(13), 2);
        check.due("of the half day that it gets", club.booking(0, 6), 46);
        club.pass(1);
        check.due("one more was accepted: its member caused it", club.member(0, 5), 1);
        check.due("booking(0, 6)", club.booking(0, 6), 0);
    }

    /** All five machines have a booking on standby in one half day. */
    private void checkManyOnStandby() {
        check.part("five bookings on standby");
        NotedClub club = Clubs.of(5, 50, 0, 1, 0, 0, 0);
        club.setWind(3, 60);
        for (int booking = 0; booking < 5; booking++) {
            club.book(booking, 4 - booking, 3, booking == 3 ? 257 : 1, booking == 3 ? 20 : 2);
        }
        club.setWind(4, 7);
        club.order(4, 1, 2, 1, 0);
        Clubs.passTo(club, 3);
        check.due("pass(1)", club.pass(1), 0);
        for (int booking = 0; booking < 5; booking++) {
            check.due("its half day", club.booking(booking, 2), 4);
            check.due("its machine", club.booking(booking, 1), 4 - booking);
            check.due("its accepted wind", club.booking(booking, 6), 7);
            check.due("paid", club.member(booking, 0), booking == 3 ? 0 : booking == 4 ? 7 + 8 + 8 : 8);
        }
        check.due("count(12)", club.count(12), 5);
        check.due("count(11)", club.count(11), 47);
    }

    // ---- what pass() returns

    /** "Returns how many lifts are done in them", up to all that can be booked. */
    private void checkLiftsAreCounted() {
        check.part("30 lifts");
        NotedClub club = Clubs.of(1, 50, 0, 0, 0, 0, 0);
        check.due("no bookings", club.pass(1), 0);
        for (int booking = 0; booking < 30; booking++) {
            club.book(0, booking % 5, 2 + booking / 5, 1, 2);
        }
        check.due("ahead of them", club.pass(1), 0);
        check.due("all of them", club.pass(6), 30);
        check.due("count(5)", club.count(5), 30);
        check.due("count(4)", club.count(4), 0);
        check.due("member(0, 2)", club.member(0, 2), 30);
        check.due("member(0, 0)", club.member(0, 0), 900);
        check.due("machine(0, 6)", club.machine(0, 6), 6);
        check.due("machine(4, 6)", club.machine(4, 6), 6);
        check.due("they aren't done again", club.pass(20), 0);
    }

    /** "Lets half days pass, one after the other": as by as many calls for one half day each. */
    private void checkOneAfterTheOther() {
        check.part("one after the other");
        NotedClub once = busy();
        NotedClub often = busy();
        int lifts = 0;
        for (int passed = 0; passed < 20; passed++) {
            lifts += often.pass(1);
        }
        check.due("pass(20)", once.pass(20), lifts);
        check.due("but for the cancelled two and the last one", lifts, 10);
        for (int what = 0; what <= 14; what++) {
            check.due("count(" + what + ")", once.count(what), often.count(what));
        }
        for (int booking = 0; booking < 12; booking++) {
            for (int what = 0; what <= 8; what++) {
                check.due("booking(" + booking + ", " + what + ")", once.booking(booking, what),
                        often.booking(booking, what));
            }
        }
    }

    private static NotedClub busy() {
        NotedClub club = Clubs.of(2, 50, 3, 0);
        for (int booking = 0; booking < 12; booking++) {
            club.book(booking % 2, booking / 6, booking % 6, 240, 20);
        }
        club.cancel(7);
        club.swap(0, 8);
        Clubs.type(club, "0:39;1:20;2:40;4:60;5:60;6:39;7:38;10:99");
        club.readWinds();
        club.order(0, 0, 1, 3, 1);
        club.order(1, 1, 0, 3, 8);
        club.book(1, 0, 19, 250, 20);
        club.setWind(19, 99);
        club.cancel(11);
        return club;
    }

    /** "(so the half day 199 never passes)" */
    private void checkTheLastHalfDayStays() {
        check.part("half day 199");
        NotedClub club = Clubs.of(1, 50, 1, 0);
        club.book(0, 0, 199, 1, 2);
        club.order(0, 0, 1, 1, 199);
        Clubs.passTo(club, 199);
        check.due("pass(1)", club.pass(1), NOT_POSSIBLE);
        check.due("booked", club.booking(0, 5), 0);
        check.due("open", club.count(8), 1);
        check.due("blocks", club.machine(0, 1), 1);
        check.due("fate(0)", club.fate(0), 0);
        check.due("another booking", club.book(0, 1, 199, 1, 2), 1);
        check.due("another move", club.order(0, 1, 0, 1, 199), 1);
        check.due("takeBack(0)", club.takeBack(0), 1);
        check.due("cancel(0), for the present one", club.cancel(0), 4);
        check.due("swap(0, 1)", club.swap(0, 1), NOT_POSSIBLE);
    }
}
