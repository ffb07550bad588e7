/** Promises 8 to 10: order, takeBack, pass. */
public final class MovesTest {
    private static final int UNKNOWN = BallastClub.UNKNOWN;
    private static final int BAD_VALUE = BallastClub.BAD_VALUE;
    private static final int FULL = BallastClub.FULL;
    private static final int NOT_POSSIBLE = BallastClub.NOT_POSSIBLE;
    private static final int NONE = BallastClub.NONE;

    public static void main(String[] args) {
        Check check = new Check("MovesTest");
        checkOrder(check);
        checkTakeBack(check);
        checkPassErrors(check);
        checkMovesOfAHalfDay(check);
        checkMovesInOrder(check);
        checkTenMovesAtOnce(check);
        checkNoted(check);
        checkStandbyByBallast(check);
        checkStandbyByWind(check);
        checkBallastBeforeWind(check);
        checkCarriedOver(check);
        checkGivenUp(check);
        checkEndOfTime(check);
        checkAcceptedWindWhenCarried(check);
        check.finish();
    }

    private static NotedClub club(int... blocks) {
        NotedClub club = new NotedClub();
        for (int count : blocks) {
            club.addMachine(100, count);
        }
        club.addMember();
        club.addMember();
        club.addMember();
        return club;
    }

    private static void checkOrder(Check check) {
        check.part("promise 8");
        NotedClub club = club(4, 8);
        String before = Told.all(club);
        check.refused(club, before, "member -1", club.order(-1, 0, 1, 1, 0), UNKNOWN);
        check.refused(club, before, "member 3", club.order(3, 0, 1, 1, 0), UNKNOWN);
        check.refused(club, before, "from -1", club.order(0, -1, 1, 1, 0), UNKNOWN);
        check.refused(club, before, "from 2", club.order(0, 2, 1, 1, 0), UNKNOWN);
        check.refused(club, before, "to -1", club.order(0, 0, -1, 1, 0), UNKNOWN);
        check.refused(club, before, "to 2", club.order(0, 0, 2, 13, 0), UNKNOWN);
        check.refused(club, before, "half day -1", club.order(0, 0, 1, 1, -1), UNKNOWN);
        check.refused(club, before, "half day 200", club.order(0, 0, 1, 0, 200), UNKNOWN);
        check.refused(club, before, "from 2 to 2", club.order(0, 2, 2, 1, 0), UNKNOWN);
        check.refused(club, before, "blocks 0", club.order(0, 0, 1, 0, 0), BAD_VALUE);
        check.refused(club, before, "blocks 13", club.order(0, 0, 1, 13, 0), BAD_VALUE);
        check.refused(club, before, "the same", club.order(0, 1, 1, 1, 0), BAD_VALUE);
        check.due("order(2, 0, 1, 12, 199)", club.order(2, 0, 1, 12, 199), 0);
        int[] told = {2, 0, 1, 12, 199};
        for (int what = 0; what < told.length; what++) {
            check.due("move(0, " + what + ")", club.move(0, what), told[what]);
        }
        for (int move = 1; move < 10; move++) {
            check.due("order", club.order(move % 3, 1, 0, move, move), move);
        }
        before = Told.all(club);
        check.refused(club, before, "an 11th", club.order(0, 0, 1, 1, 0), FULL);
        check.refused(club, before, "a bad 11th", club.order(0, 0, 1, 0, 0), BAD_VALUE);
        club.pass(3);
        before = Told.all(club);
        check.refused(club, before, "over", club.order(0, 0, 1, 1, 2), UNKNOWN);
        check.due("room again", club.order(1, 0, 1, 1, 3), 8);
        check.due("count(8)", club.count(8), 9);
    }

    private static void checkTakeBack(Check check) {
        check.part("promise 9");
        NotedClub club = club(4, 8);
        for (int move = 0; move < 4; move++) {
            club.order(move % 3, 0, 1, move + 1, 10 + move);
        }
        String before = Told.all(club);
        check.refused(club, before, "takeBack(-1)", club.takeBack(-1), UNKNOWN);
        check.refused(club, before, "takeBack(4)", club.takeBack(4), UNKNOWN);
        check.due("takeBack(1)", club.takeBack(1), 3);
        int[][] told = {{0, 0, 1, 1, 10}, {2, 0, 1, 3, 12}, {0, 0, 1, 4, 13}};
        for (int move = 0; move < told.length; move++) {
            for (int what = 0; what < told[move].length; what++) {
                check.due("move(" + move + ", " + what + ")", club.move(move, what), told[move][what]);
            }
        }
        check.due("move(3, 0)", club.move(3, 0), UNKNOWN);
        check.due("takeBack(2), the last one", club.takeBack(2), 2);
        check.due("takeBack(0)", club.takeBack(0), 1);
        check.due("move(0, 3)", club.move(0, 3), 3);
        check.due("takeBack(0)", club.takeBack(0), 0);
        before = Told.all(club);
        check.refused(club, before, "takeBack(0), none open", club.takeBack(0), UNKNOWN);
        check.due("undo()", club.undo(), 3);
        check.due("count(8)", club.count(8), 1);
        check.due("nobody paid", club.count(11), 0);
        check.due("none failed", club.count(10), 0);
    }

    private static void checkPassErrors(Check check) {
        check.part("promise 10, errors");
        NotedClub club = club();
        String before = Told.all(club);
        check.refused(club, before, "pass(0)", club.pass(0), BAD_VALUE);
        check.refused(club, before, "pass(21)", club.pass(21), BAD_VALUE);
        check.refused(club, before, "pass(-1)", club.pass(-1), BAD_VALUE);
        check.refused(club, before, "pass(greatest)", club.pass(Integer.MAX_VALUE), BAD_VALUE);
        for (int passed = 0; passed < 9; passed++) {
            check.due("pass(20)", club.pass(20), 0);
        }
        before = Told.all(club);
        check.refused(club, before, "pass(20) at 180", club.pass(20), NOT_POSSIBLE);
        check.refused(club, before, "pass(21) at 180", club.pass(21), BAD_VALUE);
        check.due("pass(19) at 180", club.pass(19), 0);
        check.due("count(0)", club.count(0), 199);
        before = Told.all(club);
        check.refused(club, before, "pass(1) at 199", club.pass(1), NOT_POSSIBLE);
        check.due("undo()", club.undo(), 3);
        check.due("count(0)", club.count(0), 180);
    }

    private static void checkMovesOfAHalfDay(Check check) {
        check.part("promise 10, moves");
        NotedClub club = club(4, 10, 0);
        club.order(0, 0, 1, 2, 0);
        club.order(1, 0, 2, 3, 0);
        club.order(2, 0, 2, 2, 0);
        club.order(0, 1, 2, 5, 1);
        club.order(1, 2, 1, 5, 1);
        check.due("pass(1)", club.pass(1), 0);
        check.due("fits just", club.machine(1, 1), 12);
        check.due("had just so many", club.machine(0, 1), 0);
        check.due("machine(2, 1)", club.machine(2, 1), 2);
        check.due("done", club.count(9), 2);
        check.due("failed", club.count(10), 1);
        check.due("paid for 2 blocks", club.member(0, 0), 9);
        check.due("paid for the failed one", club.member(1, 0), 5);
        check.due("paid for 2 blocks", club.member(2, 0), 9);
        check.due("open", club.count(8), 2);
        check.due("move(0, 3)", club.move(0, 3), 5);
        check.due("pass(1)", club.pass(1), 0);
        check.due("machine(1, 1)", club.machine(1, 1), 12);
        check.due("machine(2, 1)", club.machine(2, 1), 2);
        check.due("all blocks", club.count(14), 14);
        check.due("open", club.count(8), 0);
        club.order(2, 1, 0, 1, 2);
        club.order(2, 1, 0, 12, 2);
        club.pass(1);
        check.due("one less than it would need", club.machine(1, 1), 11);
        check.due("machine(0, 1)", club.machine(0, 1), 1);
    }

    /** Of one half day by their numbers, whatever other half days stand between them. */
    private static void checkMovesInOrder(Check check) {
        check.part("promise 10, order of the moves");
        NotedClub club = club(6, 12, 0);
        club.order(0, 2, 0, 1, 1);
        club.order(1, 1, 0, 6, 0);
        club.order(2, 0, 2, 6, 0);
        club.pass(1);
        check.due("machine(0, 1)", club.machine(0, 1), 6);
        check.due("machine(1, 1)", club.machine(1, 1), 6);
        check.due("machine(2, 1)", club.machine(2, 1), 6);
        check.due("open", club.count(8), 1);
        check.due("move(0, 0)", club.move(0, 0), 0);
        club.order(1, 0, 2, 7, 1);
        club.pass(1);
        check.due("the first one makes the second one possible", club.machine(0, 1), 0);
        check.due("machine(2, 1)", club.machine(2, 1), 12);
        check.due("done", club.count(9), 4);
        check.due("failed", club.count(10), 0);
    }

    private static void checkTenMovesAtOnce(Check check) {
        check.part("promise 10, ten moves");
        NotedClub club = club(12, 0);
        for (int move = 0; move < 10; move++) {
            check.due("order", club.order(move % 3, 0, 1, 1, 4), move);
        }
        check.due("willBear(0, 60, 4)", club.willBear(0, 60, 4), 10300 / 60);
        check.due("pass(5)", club.pass(5), 0);
        check.due("open", club.count(8), 0);
        check.due("done", club.count(9), 10);
        check.due("machine(0, 1)", club.machine(0, 1), 2);
        check.due("machine(1, 1)", club.machine(1, 1), 10);
        check.due("the last one of them", club.machine(0, 5), 0);
        check.due("count(11)", club.count(11), 70);
    }

    private static void checkNoted(Check check) {
        check.part("noted members");
        NotedClub club = club(6, 6, 6);
        club.order(1, 0, 1, 2, 0);
        club.order(2, 0, 1, 7, 0);
        club.pass(1);
        check.due("of the machine from", club.machine(0, 5), 1);
        check.due("of the machine to", club.machine(1, 5), NONE);
        club.order(2, 0, 1, 1, 1);
        club.order(0, 1, 2, 1, 1);
        club.pass(1);
        check.due("the latest one", club.machine(0, 5), 2);
        check.due("the latest one", club.machine(1, 5), 0);
        check.due("still", club.machine(2, 5), NONE);
        club.pass(20);
        check.due("whenever that was", club.machine(0, 5), 2);
        club.undo();
        club.undo();
        check.due("undone", club.machine(0, 5), 1);
    }

    private static void checkStandbyByBallast(Check check) {
        check.part("standby by ballast");
        NotedClub club = club(10, 0);
        club.book(0, 0, 0, 575, 20);
        club.book(1, 0, 1, 560, 20);
        club.order(2, 0, 1, 2, 0);
        check.due("pass(1)", club.pass(1), 0);
        check.due("who took pays", club.member(2, 0), 5 + 4 + 8);
        check.due("caused", club.member(2, 5), 1);
        check.due("own member pays nothing", club.member(0, 0), 0);
        check.due("standbys", club.booking(0, 7), 1);
        check.due("carried behind the other one", club.booking(0, 2), 2);
        check.due("pass(1), borne just", club.pass(1), 1);
        check.due("paid for the lift", club.member(1, 0), 30);
        check.due("done", club.booking(1, 5), 1);
        check.due("machine(0, 6)", club.machine(0, 6), 1);
        check.due("pass(1)", club.pass(1), 0);
        check.due("caused again", club.member(2, 5), 2);
        check.due("count(12)", club.count(12), 2);
        check.due("count(13)", club.count(13), 0);
        check.due("standbys", club.booking(0, 7), 2);
        check.due("count(11)", club.count(11), 5 + 4 + 8 + 30 + 8);
    }

    private static void checkStandbyByWind(Check check) {
        check.part("standby by wind");
        NotedClub club = club(10);
        check.due("limit", club.windLimit(400, 10), 35);
        club.setWind(1, 36);
        club.setWind(2, 35);
        club.book(1, 0, 0, 400, 10);
        club.setWind(0, 36);
        check.due("pass(1), nobody caused it", club.pass(1), 0);
        check.due("count(13)", club.count(13), 1);
        check.due("nobody pays", club.count(11), 0);
        check.due("booking(0, 2)", club.booking(0, 2), 1);
        check.due("accepts the wind", club.booking(0, 6), 36);
        check.due("pass(1), its member caused it", club.pass(1), 0);
        check.due("count(12)", club.count(12), 1);
        check.due("count(13)", club.count(13), 1);
        check.due("member(1, 5)", club.member(1, 5), 1);
        check.due("member(1, 0)", club.member(1, 0), 8);
        check.due("pass(1), at the limit", club.pass(1), 1);
        check.due("member(1, 0)", club.member(1, 0), 38);
        check.due("booking(0, 2)", club.booking(0, 2), 2);
        check.due("booking(0, 7)", club.booking(0, 7), 2);
        club.setWind(3, 35);
        club.book(2, 0, 3, 400, 10);
        club.setWind(3, 36);
        club.pass(1);
        check.due("accepted just the limit", club.count(13), 2);
        check.due("member(2, 0)", club.member(2, 0), 0);
    }

    /** Both would put it on standby: the ballast counts first. */
    private static void checkBallastBeforeWind(Check check) {
        check.part("ballast before wind");
        NotedClub club = club(10, 0);
        club.setWind(0, 99);
        club.book(0, 0, 0, 575, 20);
        club.order(1, 0, 1, 1, 0);
        club.pass(1);
        check.due("member(0, 5)", club.member(0, 5), 0);
        check.due("member(1, 5)", club.member(1, 5), 1);
        check.due("member(1, 0)", club.member(1, 0), 15);
    }

    private static void checkCarriedOver(Check check) {
        check.part("carried over");
        NotedClub club = club(10, 10);
        for (int halfDay = 0; halfDay < 9; halfDay++) {
            club.book(0, 0, halfDay, 1, 2);
        }
        club.book(0, 1, 9, 1, 2);
        club.setWind(0, 99);
        check.due("pass(1)", club.pass(1), 0);
        check.due("the ninth one is free", club.booking(0, 2), 9);
        check.due("booked", club.booking(0, 5), 0);
        check.due("pass(9)", club.pass(9), 10);
    }

    private static void checkGivenUp(Check check) {
        check.part("given up");
        NotedClub club = club(10);
        for (int halfDay = 0; halfDay < 10; halfDay++) {
            club.book(1, 0, halfDay, 1, 2);
        }
        club.setWind(0, 60);
        club.setWind(10, 50);
        check.due("pass(1)", club.pass(1), 0);
        check.due("given up", club.booking(0, 5), 2);
        check.due("its half day", club.booking(0, 2), 0);
        check.due("its wind", club.booking(0, 6), 0);
        check.due("its standbys", club.booking(0, 7), 1);
        check.due("count(6)", club.count(6), 1);
        check.due("count(13)", club.count(13), 1);
        check.due("member(1, 3)", club.member(1, 3), 1);
        check.due("nobody pays", club.count(11), 0);
        club.cancel(9);
        check.due("a cancelled one leaves room", club.undo(), 3);
        check.due("undo()", club.undo(), 2);
        club.cancel(4);
        check.due("pass(1)", club.pass(1), 0);
        check.due("booking(0, 2)", club.booking(0, 2), 4);
    }

    private static void checkEndOfTime(Check check) {
        check.part("half day 199");
        NotedClub club = club(10);
        for (int passed = 0; passed < 9; passed++) {
            club.pass(20);
        }
        club.pass(17);
        club.book(0, 0, 197, 1, 2);
        club.book(0, 0, 198, 1, 2);
        club.setWind(197, 99);
        club.setWind(198, 99);
        check.due("pass(1)", club.pass(1), 0);
        check.due("carried to 199", club.booking(0, 2), 199);
        check.due("pass(1)", club.pass(1), 0);
        check.due("nothing is free", club.booking(1, 5), 2);
        check.due("booking(1, 2)", club.booking(1, 2), 198);
        check.due("booked", club.booking(0, 5), 0);
        check.due("count(0)", club.count(0), 199);
        check.due("pass(1)", club.pass(1), NOT_POSSIBLE);
    }

    /** It notes the wind of the half day that it gets, not of the one that it had. */
    private static void checkAcceptedWindWhenCarried(Check check) {
        check.part("accepted wind");
        NotedClub club = club(10);
        club.setWind(0, 70);
        club.book(0, 0, 0, 1, 2);
        check.due("booking(0, 6)", club.booking(0, 6), 70);
        club.setWind(1, 12);
        club.pass(1);
        check.due("its member caused it", club.member(0, 5), 1);
        check.due("booking(0, 6)", club.booking(0, 6), 12);
        club.setWind(1, 70);
        check.due("it stays", club.booking(0, 6), 12);
        club.pass(1);
        check.due("nobody caused it", club.count(13), 1);
    }
}
