/** Promises 14 to 16: undo, keep, restore. */
public final class HistoryTest {
    private static final int NONE = BallastClub.NONE;

    public static void main(String[] args) {
        Check check = new Check("HistoryTest");
        checkUndo(check);
        checkEveryAct(check);
        checkSnapshot(check);
        checkSnapshotApart(check);
        check.finish();
    }

    private static void checkUndo(Check check) {
        check.part("promise 14");
        NotedClub club = new NotedClub();
        check.due("undo() of nothing", club.undo(), NONE);
        for (int wind = 1; wind <= 7; wind++) {
            club.setWind(0, wind);
            check.due("count(15)", club.count(15), Math.min(wind, 4));
        }
        check.due("undo()", club.undo(), 3);
        check.due("wind(0)", club.wind(0), 6);
        check.due("undo()", club.undo(), 2);
        check.due("wind(0)", club.wind(0), 5);
        check.due("setWind(0, 50)", club.setWind(0, 50), 5);
        check.due("count(15)", club.count(15), 3);
        check.due("undo()", club.undo(), 2);
        check.due("wind(0)", club.wind(0), 5);
        check.due("undo()", club.undo(), 1);
        check.due("undo()", club.undo(), 0);
        check.due("wind(0), the oldest that is kept", club.wind(0), 3);
        String before = Told.all(club);
        check.refused(club, before, "undo() of no more", club.undo(), NONE);
        check.due("setWind(0, 3)", club.setWind(0, 3), NONE);
        check.due("NONE isn't recorded", club.count(15), 0);
        check.due("setWind(0, 100)", club.setWind(0, 100), BallastClub.BAD_VALUE);
        check.due("an error isn't recorded", club.count(15), 0);
    }

    /** Each act records the state that was before it: undo() brings all of it back. */
    private static void checkEveryAct(Check check) {
        check.part("promise 14, each act");
        NotedClub club = busyClub();
        club.keep();
        club.setWind(60, 6);
        for (int act = 0; act < 12; act++) {
            String before = Told.state(club);
            int states = club.count(15);
            check.holds("act " + act + " answers an error", actAnswer(club, act) >= 0);
            check.due("states behind act " + act, club.count(15), Math.min(states + 1, 4));
            check.holds("act " + act + " changes nothing", !before.equals(Told.state(club)));
            check.due("undo() of act " + act, club.undo(), Math.min(states, 3));
            check.holds("undo() of act " + act + " leaves something", before.equals(Told.state(club)));
        }
    }

    private static int actAnswer(NotedClub club, int act) {
        switch (act) {
            case 0:
                return club.addMachine(77, 7);
            case 1:
                return club.addMember();
            case 2:
                return club.setWind(50, 5);
            case 3:
                return club.book(1, 1, 30, 5, 5);
            case 4:
                return club.cancel(2);
            case 5:
                return club.swap(2, 3);
            case 6:
                return club.order(1, 0, 1, 1, 40);
            case 7:
                return club.takeBack(0);
            case 8:
                return club.pass(20);
            case 9:
                club.clearText();
                club.type('9');
                club.type(':');
                club.type('8');
                return club.readWinds();
            case 10:
                return club.restore();
            default:
                return club.pass(1);
        }
    }

    /** Bookings that will be done, carried over, given up or cancelled; moves that will be done or fail. */
    private static NotedClub busyClub() {
        NotedClub club = new NotedClub();
        club.addMachine(100, 10);
        club.addMachine(90, 3);
        club.addMember();
        club.addMember();
        club.book(0, 0, 0, 5, 5);
        club.book(1, 1, 0, 5, 5);
        club.pass(1);
        for (int booking = 0; booking < 5; booking++) {
            club.book(booking % 2, booking % 2, 1 + booking, 400, 20);
        }
        club.book(1, 0, 9, 570, 20);
        club.setWind(1, 80);
        club.order(0, 0, 1, 5, 4);
        club.order(1, 0, 1, 6, 6);
        club.order(1, 1, 0, 1, 7);
        club.book(1, 0, 6, 5, 5);
        club.cancel(7);
        return club;
    }

    private static void checkSnapshot(Check check) {
        check.part("promises 15 and 16");
        NotedClub club = busyClub();
        String before = Told.all(club);
        check.refused(club, before, "restore() of nothing", club.restore(), NONE);
        String kept = Told.state(club);
        check.due("keep()", club.keep(), 1);
        check.holds("keep() changed something", before.equals(Told.all(club)));
        club.pass(20);
        club.addMachine(11, 1);
        club.type('q');
        String later = Told.state(club);
        club.keep();
        check.due("restore() of the later one", club.restore(), 21);
        check.holds("another state", later.equals(Told.state(club)));
        check.due("restore() is an act, also if nothing is different", club.undo(), 3);
        club.undo();
        club.undo();
        check.holds("undo() leads back", kept.equals(Told.state(club)));
        check.due("restore() after undo()", club.restore(), 21);
        check.holds("the snapshot isn't undone", later.equals(Told.state(club)));
        check.due("the text stays", club.count(16), 1);
        check.due("undo() of restore()", club.undo(), 1);
        check.holds("undone", kept.equals(Told.state(club)));
        check.due("restore() again: it stays", club.restore(), 21);
        check.holds("restored again", later.equals(Told.state(club)));
        check.due("keep() in place of it", club.keep(), 21);
    }

    /** What happens to the state behind keep() does not happen to the snapshot. */
    private static void checkSnapshotApart(Check check) {
        check.part("promise 16, apart");
        NotedClub club = new NotedClub();
        check.due("keep() of a new club", club.keep(), 0);
        String empty = Told.state(club);
        club.addMachine(100, 10);
        club.addMember();
        club.setWind(3, 3);
        club.pass(2);
        check.due("restore()", club.restore(), 0);
        check.holds("empty again", empty.equals(Told.state(club)));
        check.due("count(15)", club.count(15), 4);
        club.addMember();
        check.due("restore()", club.restore(), 0);
        check.holds("empty once more", empty.equals(Told.state(club)));
        check.due("addMember()", club.addMember(), 0);
        check.due("its account", club.member(0, 0), 0);
    }
}
