/** Promises 2 to 4: addMachine, addMember, setWind. */
public final class WhatThereIsTest {
    private static final int UNKNOWN = BallastClub.UNKNOWN;
    private static final int BAD_VALUE = BallastClub.BAD_VALUE;
    private static final int FULL = BallastClub.FULL;
    private static final int NONE = BallastClub.NONE;

    public static void main(String[] args) {
        Check check = new Check("WhatThereIsTest");
        checkMachines(check);
        checkMembers(check);
        checkWinds(check);
        check.finish();
    }

    private static void checkMachines(Check check) {
        check.part("promise 2");
        NotedClub club = new NotedClub();
        String before = Told.all(club);
        check.refused(club, before, "addMachine(9, 0)", club.addMachine(9, 0), BAD_VALUE);
        check.refused(club, before, "addMachine(201, 0)", club.addMachine(201, 0), BAD_VALUE);
        check.refused(club, before, "addMachine(10, -1)", club.addMachine(10, -1), BAD_VALUE);
        check.refused(club, before, "addMachine(10, 13)", club.addMachine(10, 13), BAD_VALUE);
        check.refused(club, before, "addMachine(least)", club.addMachine(Integer.MIN_VALUE, 0), BAD_VALUE);
        check.due("addMachine(10, 0)", club.addMachine(10, 0), 0);
        check.due("addMachine(200, 12)", club.addMachine(200, 12), 1);
        check.due("addMachine(11, 1)", club.addMachine(11, 1), 2);
        check.due("addMachine(199, 11)", club.addMachine(199, 11), 3);
        check.due("addMachine(50, 5)", club.addMachine(50, 5), 4);
        before = Told.all(club);
        check.refused(club, before, "a sixth machine", club.addMachine(50, 5), FULL);
        check.refused(club, before, "a sixth bad machine", club.addMachine(9, 5), BAD_VALUE);
        check.due("machine(1, 0)", club.machine(1, 0), 200);
        check.due("machine(1, 1)", club.machine(1, 1), 12);
        check.due("machine(1, 5)", club.machine(1, 5), NONE);
        check.due("machine(3, 0)", club.machine(3, 0), 199);
        check.due("count(1)", club.count(1), 5);
        check.due("count(15)", club.count(15), 4);
        check.due("undo()", club.undo(), 3);
        check.due("count(1)", club.count(1), 4);
        check.due("the fifth machine again", club.addMachine(60, 0), 4);
        check.due("machine(4, 0)", club.machine(4, 0), 60);
    }

    private static void checkMembers(Check check) {
        check.part("promise 3");
        NotedClub club = new NotedClub();
        for (int member = 0; member < 8; member++) {
            check.due("addMember()", club.addMember(), member);
            check.due("count(2)", club.count(2), member + 1);
            check.due("paid", club.member(member, 0), 0);
            check.due("caused", club.member(member, 5), 0);
        }
        String before = Told.all(club);
        check.refused(club, before, "a ninth member", club.addMember(), FULL);
        check.due("undo()", club.undo(), 3);
        check.due("count(2)", club.count(2), 7);
    }

    private static void checkWinds(Check check) {
        check.part("promise 4");
        NotedClub club = new NotedClub();
        String before = Told.all(club);
        check.refused(club, before, "setWind(-1, 5)", club.setWind(-1, 5), UNKNOWN);
        check.refused(club, before, "setWind(200, 5)", club.setWind(200, 5), UNKNOWN);
        check.refused(club, before, "setWind(200, 100)", club.setWind(200, 100), UNKNOWN);
        check.refused(club, before, "setWind(0, -1)", club.setWind(0, -1), BAD_VALUE);
        check.refused(club, before, "setWind(0, 100)", club.setWind(0, 100), BAD_VALUE);
        check.refused(club, before, "setWind(0, 0)", club.setWind(0, 0), NONE);
        check.due("setWind(0, 99)", club.setWind(0, 99), 0);
        check.due("count(15)", club.count(15), 1);
        before = Told.all(club);
        check.refused(club, before, "setWind(0, 99) again", club.setWind(0, 99), NONE);
        check.due("setWind(0, 1)", club.setWind(0, 1), 99);
        check.due("setWind(199, 7)", club.setWind(199, 7), 0);
        check.due("wind(199)", club.wind(199), 7);
        check.due("wind(0)", club.wind(0), 1);
        check.due("wind(1)", club.wind(1), 0);
        club.pass(3);
        before = Told.all(club);
        check.refused(club, before, "setWind(2, 5)", club.setWind(2, 5), UNKNOWN);
        check.refused(club, before, "setWind(2, 100)", club.setWind(2, 100), UNKNOWN);
        check.due("setWind(3, 5)", club.setWind(3, 5), 0);
        check.due("setWind(3, 0)", club.setWind(3, 0), 5);
    }
}
