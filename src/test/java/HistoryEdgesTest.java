import java.util.ArrayList;
import java.util.List;

/** "Terms", "HISTORY", and promises 14 to 16: each sentence at its bounds. */
public final class HistoryEdgesTest {
    private static final int BAD_VALUE = BallastClub.BAD_VALUE;
    private static final int FULL = BallastClub.FULL;
    private static final int NOT_POSSIBLE = BallastClub.NOT_POSSIBLE;
    private static final int NONE = BallastClub.NONE;

    /** One call of a club. */
    private interface Call {
        int on(NotedClub club);
    }

    /** A call, by its name. */
    private record Named(String name, Call call) {
    }

    private final Check check = new Check("HistoryEdgesTest");

    public static void main(String[] args) {
        new HistoryEdgesTest().run();
    }

    private void run() {
        checkEmptyHistory();
        checkOneToFourStates();
        checkTheOldestIsDropped();
        checkActsBehindUndo();
        checkEachActIsRecorded();
        checkOthersAreNotRecorded();
        checkErrorsAreNotRecorded();
        checkActsWithoutDifference();
        checkUndoOfEachTable();
        checkUndoLeavesTextAndSnapshot();
        checkNoSnapshot();
        checkSnapshotOfEmptyAndFullClubs();
        checkOneSnapshot();
        checkSnapshotStays();
        checkRestoreLeavesTextAndHistory();
        checkPresentHalfDayIsReturned();
        check.finish();
    }

    // ---- "A history of at most 4 states is kept"

    private void checkEmptyHistory() {
        check.part("an empty history");
        NotedClub club = new NotedClub();
        check.due("count(15)", club.count(15), 0);
        check.due("undo()", club.undo(), NONE);
        check.due("undo() again", club.undo(), NONE);
        check.due("count(15)", club.count(15), 0);
        check.due("addMember()", club.addMember(), 0);
        check.due("undo()", club.undo(), 0);
        check.due("count(2)", club.count(2), 0);
        check.due("undo()", club.undo(), NONE);
        check.due("count(2)", club.count(2), 0);
    }

    private void checkOneToFourStates() {
        for (int states = 1; states <= 4; states++) {
            check.part(states + " states");
            NotedClub club = new NotedClub();
            for (int act = 0; act < states; act++) {
                check.due("addMember()", club.addMember(), act);
                check.due("count(15)", club.count(15), act + 1);
            }
            for (int left = states - 1; left >= 0; left--) {
                check.due("undo()", club.undo(), left);
                check.due("count(15)", club.count(15), left);
                check.due("count(2)", club.count(2), left);
            }
            check.due("undo() of no more", club.undo(), NONE);
            check.due("count(2)", club.count(2), 0);
        }
    }

    /** "when one more is recorded, the oldest one is dropped" */
    private void checkTheOldestIsDropped() {
        for (int acts = 4; acts <= 14; acts++) {
            check.part(acts + " acts");
            NotedClub club = new NotedClub();
            for (int act = 1; act <= acts; act++) {
                club.setWind(9, act);
                check.due("count(15)", club.count(15), Math.min(act, 4));
            }
            for (int left = 3; left >= 0; left--) {
                check.due("undo()", club.undo(), left);
                check.due("wind(9)", club.wind(9), acts - 4 + left);
            }
            check.due("undo() of no more", club.undo(), NONE);
            check.due("the dropped ones don't come back", club.wind(9), acts - 4);
        }
    }

    /** "undo() removes and restores the latest state of the history" */
    private void checkActsBehindUndo() {
        for (int undone = 1; undone <= 4; undone++) {
            check.part("acts behind " + undone + " calls of undo()");
            NotedClub club = new NotedClub();
            for (int act = 1; act <= 7; act++) {
                club.setWind(9, act);
            }
            for (int call = 0; call < undone; call++) {
                club.undo();
            }
            check.due("setWind(9, 90)", club.setWind(9, 90), 7 - undone);
            check.due("count(15)", club.count(15), 5 - undone);
            check.due("setWind(9, 91)", club.setWind(9, 91), 90);
            check.due("undo()", club.undo(), Math.min(5 - undone, 3));
            check.due("wind(9)", club.wind(9), 90);
            club.undo();
            check.due("wind(9)", club.wind(9), 7 - undone);
            int oldest = undone == 1 ? 4 : 3;
            for (int wind = 6 - undone; wind >= oldest; wind--) {
                check.due("undo()", club.undo(), wind - oldest);
                check.due("wind(9)", club.wind(9), wind);
            }
            check.due("undo() of no more", club.undo(), NONE);
        }
    }

    // ---- "Each call of a method that is described as an act, and returns no error and not NONE, records the state"

    /**
     * Machines 0 and 1, members 0 and 1, bookings 0 to 2, moves 0 and 1; half day 3 is the present one. One state is in
     * the history, and another one in the snapshot.
     */
    private static NotedClub busy() {
        NotedClub club = Clubs.of(2, 50, 5, 5);
        club.pass(3);
        club.book(0, 0, 3, 1, 2);
        club.book(1, 1, 4, 1, 2);
        club.book(0, 0, 5, 1, 2);
        club.order(0, 0, 1, 1, 4);
        club.order(1, 1, 0, 1, 5);
        club.keep();
        for (int state = 0; state < 4; state++) {
            club.undo();
        }
        club.restore();
        club.setWind(8, 8);
        club.keep();
        club.undo();
        return Clubs.type(club, "9:9");
    }

    private void checkEachActIsRecorded() {
        List<Named> acts = List.of(
                new Named("addMachine", club -> club.addMachine(10, 0)),
                new Named("addMember", club -> club.addMember()),
                new Named("setWind", club -> club.setWind(3, 1)),
                new Named("book", club -> club.book(0, 0, 9, 1, 2)),
                new Named("cancel, no coins", club -> club.cancel(1)),
                new Named("cancel, 4 coins", club -> club.cancel(0)),
                new Named("swap", club -> club.swap(0, 1)),
                new Named("order", club -> club.order(0, 0, 1, 1, 3)),
                new Named("takeBack", club -> club.takeBack(0)),
                new Named("takeBack, the last one", club -> club.takeBack(1)),
                new Named("pass(1)", club -> club.pass(1)),
                new Named("pass(20)", club -> club.pass(20)),
                new Named("readWinds", club -> club.readWinds()),
                new Named("restore", club -> club.restore()));
        for (Named act : acts) {
            check.part(act.name);
            NotedClub club = busy();
            check.due("count(15)", club.count(15), 1);
            String before = Told.state(club);
            check.holds("no error", act.call.on(club) >= 0);
            check.due("one state more", club.count(15), 2);
            check.holds("something is different", !before.equals(Told.state(club)));
            check.due("undo()", club.undo(), 1);
            check.holds("as before", before.equals(Told.state(club)));
        }
    }

    private void checkOthersAreNotRecorded() {
        List<Named> others = new ArrayList<>(List.of(
                new Named("type", club -> club.type('1')), new Named("clearText", club -> club.clearText()),
                new Named("keep", club -> club.keep()), new Named("bears", club -> club.bears(0, 2)),
                new Named("willBear", club -> club.willBear(0, 2, 9)),
                new Named("windLimit", club -> club.windLimit(1, 2))));
        others.addAll(List.of(
                new Named("machine", club -> club.machine(0, 0)), new Named("member", club -> club.member(0, 0)),
                new Named("booking", club -> club.booking(0, 0)), new Named("move", club -> club.move(0, 0)),
                new Named("bookedAt", club -> club.bookedAt(0, 3)),
                new Named("machineFor", club -> club.machineFor(9, 1, 2)),
                new Named("fate", club -> club.fate(0)), new Named("wind", club -> club.wind(0)),
                new Named("count", club -> club.count(0))));
        for (Named other : others) {
            check.part(other.name);
            NotedClub club = busy();
            String before = Told.state(club);
            check.holds("no error", other.call.on(club) >= 0);
            check.due("as many states", club.count(15), 1);
            check.holds("nothing of the state is different", before.equals(Told.state(club)));
        }
    }

    private void checkErrorsAreNotRecorded() {
        check.part("errors and NONE");
        NotedClub club = Clubs.of(1, 50, 5);
        int states = club.count(15);
        check.due("addMachine(9, 0)", club.addMachine(9, 0), BAD_VALUE);
        check.due("setWind(0, 0)", club.setWind(0, 0), NONE);
        check.due("setWind(0, 100)", club.setWind(0, 100), BAD_VALUE);
        check.due("book", club.book(0, 0, 0, 501, 2), NOT_POSSIBLE);
        check.due("order", club.order(0, 0, 0, 1, 0), BAD_VALUE);
        check.due("pass(0)", club.pass(0), BAD_VALUE);
        check.due("readWinds()", club.readWinds(), -100);
        check.due("restore()", club.restore(), NONE);
        check.due("count(15)", club.count(15), states);
        for (int member = 1; member < 8; member++) {
            club.addMember();
        }
        check.due("addMember()", club.addMember(), FULL);
        check.due("undo()", club.undo(), 3);
        check.due("count(2)", club.count(2), 7);
    }

    /** Acts that are no error are recorded, also if the state is the same behind them. */
    private void checkActsWithoutDifference() {
        check.part("acts without a difference");
        NotedClub club = Clubs.of(1, 50, 5);
        club.keep();
        check.due("restore() of the same", club.restore(), 0);
        check.due("count(15)", club.count(15), 3);
        Clubs.type(club, "0:0");
        check.due("readWinds() of the same", club.readWinds(), 1);
        check.due("count(15)", club.count(15), 4);
        check.due("undo()", club.undo(), 3);
        check.due("undo()", club.undo(), 2);
        check.due("count(1)", club.count(1), 1);
        check.due("undo()", club.undo(), 1);
        check.due("count(1)", club.count(1), 0);
    }

    // ---- "A state is everything but the text, the history and the snapshot."

    /** Tables that are full, and each of the numbers, come back. */
    private void checkUndoOfEachTable() {
        check.part("undo() in a full club");
        NotedClub club = full();
        String before = Told.state(club);
        check.due("pass(20)", club.pass(20), 29);
        check.due("undo()", club.undo(), 3);
        check.holds("undo() of pass()", before.equals(Told.state(club)));
        for (int move = 0; move < 4; move++) {
            check.due("takeBack(0)", club.takeBack(0), 9 - move);
        }
        for (int left = 3; left >= 0; left--) {
            check.due("undo()", club.undo(), left);
            check.due("count(8)", club.count(8), 10 - left);
        }
        check.holds("undo() of takeBack()", before.equals(Told.state(club)));
        check.due("addMachine", club.addMachine(10, 0), FULL);
        check.due("addMember()", club.addMember(), FULL);
        check.due("book", club.book(0, 0, 30, 1, 2), FULL);
        check.due("order", club.order(0, 0, 1, 1, 9), FULL);
    }

    /** Five machines, eight members, 30 bookings and 10 moves. */
    private static NotedClub full() {
        NotedClub club = Clubs.of(8, 50, 12, 9, 6, 3, 0);
        for (int booking = 0; booking < 30; booking++) {
            club.book(booking % 8, booking % 5, booking / 5, 250, 20);
        }
        for (int move = 0; move < 10; move++) {
            club.order(move % 8, move % 5, (move + 1) % 5, 1 + move, move);
        }
        Clubs.type(club, "0:1;199:99;3:60;4:5;20:99");
        club.readWinds();
        club.clearText();
        club.cancel(17);
        return club;
    }

    private void checkUndoLeavesTextAndSnapshot() {
        check.part("undo() leaves the text and the snapshot");
        NotedClub club = Clubs.of(1, 50, 5);
        Clubs.type(club, "1:1");
        club.keep();
        check.due("undo()", club.undo(), 1);
        check.due("count(16)", club.count(16), 3);
        check.due("undo()", club.undo(), 0);
        check.due("count(16)", club.count(16), 3);
        check.due("readWinds()", club.readWinds(), 1);
        check.due("undo()", club.undo(), 0);
        check.due("type('2')", club.type('2'), 4);
        check.due("restore()", club.restore(), 0);
        check.due("count(1)", club.count(1), 1);
        check.due("count(2)", club.count(2), 1);
        check.due("wind(1)", club.wind(1), 0);
        check.due("clearText()", club.clearText(), 4);
        check.due("undo()", club.undo(), 0);
        check.due("undo() doesn't bring the text back", club.count(16), 0);
    }

    // ---- "There is one snapshot, empty at first."

    private void checkNoSnapshot() {
        check.part("no snapshot");
        NotedClub club = new NotedClub();
        check.due("restore()", club.restore(), NONE);
        club.addMember();
        club.pass(5);
        check.due("restore() behind acts", club.restore(), NONE);
        club.undo();
        check.due("restore() behind undo()", club.restore(), NONE);
        check.due("count(2)", club.count(2), 1);
        check.due("count(15)", club.count(15), 1);
        check.due("keep()", club.keep(), 0);
        check.due("restore()", club.restore(), 0);
        check.due("another club has none", new NotedClub().restore(), NONE);
    }

    private void checkSnapshotOfEmptyAndFullClubs() {
        check.part("a snapshot of an empty club");
        NotedClub club = new NotedClub();
        String empty = Told.state(club);
        check.due("keep()", club.keep(), 0);
        check.due("no act", club.count(15), 0);
        club.addMachine(50, 5);
        club.addMember();
        club.book(0, 0, 0, 1, 2);
        club.setWind(4, 4);
        club.pass(3);
        check.due("restore()", club.restore(), 0);
        check.holds("empty again", empty.equals(Told.state(club)));
        check.due("undo()", club.undo(), 3);
        check.due("count(0)", club.count(0), 3);
        check.due("count(5)", club.count(5), 1);
        check.part("a snapshot of a full club");
        club = full();
        String full = Told.state(club);
        check.due("keep()", club.keep(), 0);
        club.pass(20);
        club.pass(20);
        check.due("restore()", club.restore(), 0);
        check.holds("full again", full.equals(Told.state(club)));
        check.due("pass(20)", club.pass(20), 29);
    }

    /** "Takes a snapshot of the state, in place of the one that was." */
    private void checkOneSnapshot() {
        check.part("one snapshot");
        NotedClub club = new NotedClub();
        for (int wind = 1; wind <= 6; wind++) {
            club.setWind(9, wind);
            check.due("keep()", club.keep(), 0);
        }
        club.setWind(9, 50);
        check.due("restore()", club.restore(), 0);
        check.due("wind(9)", club.wind(9), 6);
        club.undo();
        club.undo();
        club.undo();
        check.due("wind(9)", club.wind(9), 5);
        check.due("restore()", club.restore(), 0);
        check.due("wind(9)", club.wind(9), 6);
    }

    /** "Restores the state of the snapshot, which stays. This is an act." */
    private void checkSnapshotStays() {
        check.part("the snapshot stays");
        NotedClub club = Clubs.of(1, 50, 5);
        club.book(0, 0, 1, 1, 2);
        club.order(0, 0, 0, 1, 1);
        club.keep();
        String kept = Told.state(club);
        for (int time = 0; time < 3; time++) {
            check.due("pass(2)", club.pass(2), 1);
            check.due("addMember()", club.addMember(), 1);
            check.due("cancel(0)", club.cancel(0), NOT_POSSIBLE);
            check.due("restore()", club.restore(), 0);
            check.holds("as it was kept", kept.equals(Told.state(club)));
            check.due("cancel(0)", club.cancel(0), 0);
            check.due("restore()", club.restore(), 0);
            check.holds("as it was kept", kept.equals(Told.state(club)));
        }
        check.due("undo() of restore()", club.undo(), 3);
        check.due("booking(0, 5)", club.booking(0, 5), 3);
        check.due("undo() of cancel()", club.undo(), 2);
        check.due("booking(0, 5)", club.booking(0, 5), 0);
    }

    private void checkRestoreLeavesTextAndHistory() {
        check.part("restore() leaves the text and the history");
        NotedClub club = new NotedClub();
        Clubs.type(club, "1:1");
        club.keep();
        Clubs.type(club, "2:22");
        club.setWind(9, 1);
        club.setWind(9, 2);
        check.due("restore()", club.restore(), 0);
        check.due("count(16)", club.count(16), 4);
        check.due("count(15)", club.count(15), 3);
        check.due("readWinds()", club.readWinds(), 1);
        check.due("wind(2)", club.wind(2), 22);
        check.due("wind(1)", club.wind(1), 0);
        check.due("undo()", club.undo(), 3);
        check.due("undo()", club.undo(), 2);
        check.due("wind(9)", club.wind(9), 2);
        check.due("undo()", club.undo(), 1);
        check.due("wind(9)", club.wind(9), 1);
        check.due("restore()", club.restore(), 0);
        check.due("count(15)", club.count(15), 2);
    }

    /** keep(): "Returns the present half day."; restore(): "Returns the present half day then" */
    private void checkPresentHalfDayIsReturned() {
        check.part("the present half day");
        NotedClub club = new NotedClub();
        check.due("keep()", club.keep(), 0);
        club.pass(7);
        check.due("restore() of an earlier one", club.restore(), 0);
        club.undo();
        check.due("keep()", club.keep(), 7);
        Clubs.passTo(club, 199);
        check.due("restore() of an earlier one", club.restore(), 7);
        check.due("pass(1)", club.pass(1), 0);
        check.due("undo()", club.undo(), 3);
        check.due("undo()", club.undo(), 2);
        check.due("keep() at the last one", club.keep(), 199);
        for (int state = 0; state < 2; state++) {
            club.undo();
        }
        check.holds("an earlier one", club.count(0) < 199);
        check.due("restore() of the last one", club.restore(), 199);
        check.due("pass(1)", club.pass(1), NOT_POSSIBLE);
    }
}
