/** "Terms" and the promises' arguments: each number at its bounds and just beyond; the formulas in all their range. */
public final class NumberEdgesTest {
    private static final int UNKNOWN = BallastClub.UNKNOWN;
    private static final int BAD_VALUE = BallastClub.BAD_VALUE;
    private static final int NOT_POSSIBLE = BallastClub.NOT_POSSIBLE;
    private static final int NONE = BallastClub.NONE;
    private static final int LEAST = Integer.MIN_VALUE;
    private static final int GREATEST = Integer.MAX_VALUE;

    private final Check check = new Check("NumberEdgesTest");

    public static void main(String[] args) {
        new NumberEdgesTest().run();
    }

    private void run() {
        checkStrength();
        checkBlocks();
        checkBears();
        checkBearsByHand();
        checkWindLimit();
        checkWindLimitByHand();
        checkLoadsOfBookings();
        checkRadii();
        checkLoadThatIsBorneJust();
        checkBlocksOfMoves();
        checkWinds();
        checkHalfDays();
        checkHalfDaysThatAreOver();
        checkAnyHalfDays();
        checkPassed();
        checkTheLastHalfDay();
        checkWhat();
        checkManyCalls();
        check.finish();
    }

    // ---- "A machine has a strength (10 to 200) and blocks of ballast (0 to 12)."

    private void checkStrength() {
        check.part("strength");
        for (int strength : new int[] {LEAST, -10, 0, 9, 201, 210, GREATEST}) {
            check.due("addMachine(" + strength + ", 0)", new NotedClub().addMachine(strength, 0), BAD_VALUE);
        }
        for (int strength = 10; strength <= 200; strength++) {
            NotedClub club = new NotedClub();
            check.due("addMachine(" + strength + ", 0)", club.addMachine(strength, 0), 0);
            check.due("its strength", club.machine(0, 0), strength);
            check.due("its blocks", club.machine(0, 1), 0);
        }
    }

    private void checkBlocks() {
        check.part("blocks");
        for (int blocks : new int[] {LEAST, -12, -1, 13, GREATEST}) {
            check.due("addMachine(10, " + blocks + ")", new NotedClub().addMachine(10, blocks), BAD_VALUE);
            check.due("addMachine(9, " + blocks + ")", new NotedClub().addMachine(9, blocks), BAD_VALUE);
        }
        for (int blocks = 0; blocks <= 12; blocks++) {
            NotedClub club = new NotedClub();
            check.due("addMachine(200, " + blocks + ")", club.addMachine(200, blocks), 0);
            check.due("its strength", club.machine(0, 0), 200);
            check.due("its blocks", club.machine(0, 1), blocks);
            check.due("all blocks", club.count(14), blocks);
        }
    }

    // ---- "(strength * 100 + blocks * 150) / radius, rounded down, but at most strength * 10"

    private void checkBears() {
        check.part("what all machines bear");
        for (int strength = 10; strength <= 200; strength++) {
            for (int first = 0; first <= 12; first += 5) {
                NotedClub club = new NotedClub();
                for (int blocks = first; blocks <= 12 && blocks < first + 5; blocks++) {
                    int machine = club.addMachine(strength, blocks);
                    checkBears(club, machine, strength, blocks);
                }
            }
        }
    }

    /** Rounded down: as much goes into the dividend, and one more doesn't. */
    private void checkBears(NotedClub club, int machine, int strength, int blocks) {
        int moment = strength * 100 + blocks * 150;
        for (int radius = 2; radius <= 60; radius++) {
            int borne = club.bears(machine, radius);
            boolean isGreatest = (borne + 1) * radius > moment || borne == strength * 10;
            check.holds("strength " + strength + ", blocks " + blocks + ", radius " + radius + ": " + borne,
                    borne * radius <= moment && borne <= strength * 10 && isGreatest);
        }
    }

    private void checkBearsByHand() {
        check.part("bears()");
        NotedClub club = new NotedClub();
        club.addMachine(10, 0);
        club.addMachine(200, 12);
        club.addMachine(10, 12);
        club.addMachine(200, 0);
        club.addMachine(30, 2);
        int[][] due = {{0, 2, 100}, {0, 10, 100}, {0, 11, 90}, {0, 60, 16}, {1, 2, 2000}, {1, 10, 2000}, {1, 11, 1981},
            {1, 60, 363}, {2, 2, 100}, {2, 28, 100}, {2, 29, 96}, {2, 60, 46}, {3, 2, 2000}, {3, 10, 2000},
            {3, 11, 1818}, {3, 60, 333}, {4, 11, 300}, {4, 12, 275}, {4, 13, 253}, {4, 59, 55}, {4, 60, 55}};
        for (int[] one : due) {
            check.due("bears(" + one[0] + ", " + one[1] + ")", club.bears(one[0], one[1]), one[2]);
            check.due("willBear(" + one[0] + ", " + one[1] + ", 0)", club.willBear(one[0], one[1], 0), one[2]);
        }
    }

    // ---- "60 - load / 20 - radius / 2, each quotient rounded down, but at least 10"

    private void checkWindLimit() {
        check.part("all wind limits");
        NotedClub club = new NotedClub();
        int calls = 0;
        for (int load = 1; load <= 2000; load++) {
            for (int radius = 2; radius <= 60; radius++) {
                int twenties = (load - load % 20) / 20;
                int twos = (radius - radius % 2) / 2;
                int due = 60 - twenties - twos;
                check.due("windLimit(" + load + ", " + radius + ")", club.windLimit(load, radius), due < 10 ? 10 : due);
                calls++;
                if (calls % 500 == 0) {
                    club = new NotedClub();
                }
            }
        }
    }

    private void checkWindLimitByHand() {
        check.part("windLimit()");
        NotedClub club = new NotedClub();
        int[][] due = {{1, 2, 59}, {1, 3, 59}, {1, 4, 58}, {19, 2, 59}, {20, 2, 58}, {39, 2, 58}, {40, 2, 57},
            {1, 60, 30}, {1, 59, 31}, {379, 60, 12}, {380, 60, 11}, {399, 60, 11}, {400, 60, 10}, {419, 60, 10},
            {420, 60, 10}, {2000, 60, 10}, {2000, 2, 10}, {979, 2, 11}, {980, 2, 10}, {1000, 2, 10}};
        for (int[] one : due) {
            check.due("windLimit(" + one[0] + ", " + one[1] + ")", club.windLimit(one[0], one[1]), one[2]);
        }
        club = Clubs.of(1, 200, 12);
        check.due("book", club.book(0, 0, 0, 399, 60), NOT_POSSIBLE);
        check.due("book", club.book(0, 0, 0, 363, 60), 0);
        check.due("its limit", club.booking(0, 8), 12);
        check.due("book", club.book(0, 0, 1, 2000, 2), 1);
        check.due("its limit, the least one", club.booking(1, 8), 10);
        check.due("book", club.book(0, 0, 2, 1, 2), 2);
        check.due("its limit, the greatest one", club.booking(2, 8), 59);
    }

    // ---- loads, radii, blocks of moves, winds

    private void checkLoadsOfBookings() {
        check.part("load 1 to 2000");
        NotedClub club = Clubs.of(1, 200, 12);
        for (int load : new int[] {LEAST, -1, 0, 2001, 2002, GREATEST}) {
            check.due("book, load " + load, club.book(0, 0, 0, load, 2), BAD_VALUE);
            check.due("windLimit, load " + load, club.windLimit(load, 2), BAD_VALUE);
            check.due("machineFor, load " + load, club.machineFor(0, load, 2), BAD_VALUE);
        }
        check.due("machineFor, load 1", club.machineFor(0, 1, 2), 0);
        check.due("machineFor, load 2000", club.machineFor(0, 2000, 2), 0);
        check.due("book, load 1", club.book(0, 0, 0, 1, 2), 0);
        check.due("book, load 2000", club.book(0, 0, 1, 2000, 2), 1);
        check.due("booking(0, 3)", club.booking(0, 3), 1);
        check.due("booking(1, 3)", club.booking(1, 3), 2000);
    }

    private void checkRadii() {
        check.part("radius 2 to 60");
        NotedClub club = Clubs.of(1, 200, 12);
        for (int radius : new int[] {LEAST, -2, -1, 0, 1, 61, 62, GREATEST}) {
            check.due("book, radius " + radius, club.book(0, 0, 0, 1, radius), BAD_VALUE);
            check.due("windLimit, radius " + radius, club.windLimit(1, radius), BAD_VALUE);
            check.due("machineFor, radius " + radius, club.machineFor(0, 1, radius), BAD_VALUE);
            check.due("bears, radius " + radius, club.bears(0, radius), BAD_VALUE);
            check.due("willBear, radius " + radius, club.willBear(0, radius, 0), BAD_VALUE);
        }
        check.due("machineFor, radius 2", club.machineFor(0, 1, 2), 0);
        check.due("machineFor, radius 60", club.machineFor(0, 1, 60), 0);
        check.due("book, radius 2", club.book(0, 0, 0, 1, 2), 0);
        check.due("book, radius 60", club.book(0, 0, 1, 1, 60), 1);
        check.due("booking(0, 4)", club.booking(0, 4), 2);
        check.due("booking(1, 4)", club.booking(1, 4), 60);
    }

    /** book(): "NOT_POSSIBLE if the machine does not bear the load as it stands now"; machineFor() alike. */
    private void checkLoadThatIsBorneJust() {
        check.part("a load that is borne just");
        for (int radius = 2; radius <= 60; radius++) {
            NotedClub club = Clubs.of(1, 30, 2);
            int borne = Math.min(300, 3300 / radius);
            check.due("machineFor, one more at " + radius, club.machineFor(0, borne + 1, radius), NONE);
            check.due("machineFor at " + radius, club.machineFor(0, borne, radius), 0);
            check.due("book, one more at " + radius, club.book(0, 0, 0, borne + 1, radius), NOT_POSSIBLE);
            check.due("book at " + radius, club.book(0, 0, 0, borne, radius), 0);
        }
        NotedClub club = Clubs.of(1, 30, 0, 2);
        club.order(0, 1, 0, 2, 0);
        check.due("open moves don't count", club.book(0, 0, 1, 151, 20), NOT_POSSIBLE);
        check.due("open moves don't count", club.book(0, 1, 1, 165, 20), 0);
        club.pass(1);
        check.due("done ones do", club.book(0, 0, 1, 165, 20), 1);
        check.due("done ones do", club.book(0, 1, 2, 151, 20), NOT_POSSIBLE);
        check.due("done ones do", club.book(0, 1, 2, 150, 20), 2);
    }

    private void checkBlocksOfMoves() {
        check.part("blocks 1 to 12 of a move");
        NotedClub club = Clubs.of(1, 50, 1, 1);
        for (int blocks : new int[] {LEAST, -12, -1, 0, 13, GREATEST}) {
            check.due("order, blocks " + blocks, club.order(0, 0, 1, blocks, 0), BAD_VALUE);
            check.due("order to the same, blocks " + blocks, club.order(0, 1, 1, blocks, 0), BAD_VALUE);
        }
        check.due("order to the same", club.order(0, 0, 0, 1, 0), BAD_VALUE);
        check.due("order to the same", club.order(0, 1, 1, 12, 0), BAD_VALUE);
        check.due("order, blocks 1", club.order(0, 0, 1, 1, 0), 0);
        check.due("order, blocks 12, more than there are", club.order(0, 0, 1, 12, 0), 1);
        check.due("move(0, 3)", club.move(0, 3), 1);
        check.due("move(1, 3)", club.move(1, 3), 12);
    }

    /** "a wind is told (0 to 99; 0 at first)" */
    private void checkWinds() {
        check.part("wind 0 to 99");
        NotedClub club = new NotedClub();
        check.due("setWind(9, 0), as at first", club.setWind(9, 0), NONE);
        for (int wind : new int[] {LEAST, -1, 100, GREATEST}) {
            check.due("setWind(9, " + wind + ")", club.setWind(9, wind), BAD_VALUE);
            check.due("setWind(200, " + wind + ")", club.setWind(200, wind), UNKNOWN);
        }
        for (int wind = 1; wind <= 99; wind++) {
            check.due("setWind(9, " + wind + ")", club.setWind(9, wind), wind - 1);
            check.due("setWind(9, " + wind + ") again", club.setWind(9, wind), NONE);
            check.due("wind(9)", club.wind(9), wind);
        }
        check.due("setWind(9, 0)", club.setWind(9, 0), 99);
        check.due("wind(9)", club.wind(9), 0);
        check.due("setWind(9, 0) again", club.setWind(9, 0), NONE);
    }

    // ---- "Half days are numbered from 0 to 199; the present one is 0 at first."

    private void checkHalfDays() {
        check.part("half days to come");
        for (int halfDay : new int[] {LEAST, -200, -1, 200, 201, GREATEST}) {
            checkNoHalfDay(Clubs.of(1, 50, 1, 1), halfDay);
        }
        for (int halfDay = 0; halfDay < 200; halfDay++) {
            checkHalfDay(Clubs.of(1, 50, 1, 1), halfDay);
        }
    }

    private void checkHalfDaysThatAreOver() {
        check.part("half days that are over");
        for (int present : new int[] {1, 2, 20, 21, 100, 198, 199}) {
            for (int halfDay : new int[] {-1, 0, present - 1, 200}) {
                checkNoHalfDay(Clubs.passTo(Clubs.of(1, 50, 1, 1), present), halfDay);
            }
            for (int halfDay : new int[] {present, Math.min(present + 1, 199), 199}) {
                checkHalfDay(Clubs.passTo(Clubs.of(1, 50, 1, 1), present), halfDay);
            }
        }
    }

    private void checkNoHalfDay(NotedClub club, int halfDay) {
        String at = ", half day " + halfDay + " at " + club.count(0);
        check.due("setWind" + at, club.setWind(halfDay, 5), UNKNOWN);
        check.due("setWind, wind 0" + at, club.setWind(halfDay, 0), UNKNOWN);
        check.due("book" + at, club.book(0, 0, halfDay, 1, 2), UNKNOWN);
        check.due("order" + at, club.order(0, 0, 1, 1, halfDay), UNKNOWN);
        check.due("willBear" + at, club.willBear(0, 2, halfDay), UNKNOWN);
        check.due("machineFor" + at, club.machineFor(halfDay, 1, 2), UNKNOWN);
    }

    private void checkHalfDay(NotedClub club, int halfDay) {
        String at = ", half day " + halfDay + " at " + club.count(0);
        check.due("machineFor" + at, club.machineFor(halfDay, 1, 2), 0);
        check.due("willBear" + at, club.willBear(0, 60, halfDay), 5150 / 60);
        check.due("setWind" + at, club.setWind(halfDay, 5), 0);
        check.due("book" + at, club.book(0, 0, halfDay, 1, 2), 0);
        check.due("its half day" + at, club.booking(0, 2), halfDay);
        check.due("its wind" + at, club.booking(0, 6), 5);
        check.due("bookedAt" + at, club.bookedAt(0, halfDay), 0);
        check.due("machineFor, booked" + at, club.machineFor(halfDay, 1, 2), 1);
        check.due("order" + at, club.order(0, 0, 1, 1, halfDay), 0);
        check.due("the move's half day" + at, club.move(0, 4), halfDay);
        check.due("willBear behind it" + at, club.willBear(0, 60, halfDay), 5000 / 60);
        check.due("willBear ahead of it" + at, club.willBear(0, 60, club.count(0)),
                halfDay == club.count(0) ? 5000 / 60 : 5150 / 60);
    }

    /** bookedAt() and wind(): "0 to 199", also those that are over. */
    private void checkAnyHalfDays() {
        check.part("any half days");
        for (int present : new int[] {0, 1, 199}) {
            NotedClub club = Clubs.of(0, 50, 1);
            club.setWind(0, 7);
            Clubs.passTo(club, present);
            for (int halfDay : new int[] {LEAST, -1, 200, GREATEST}) {
                check.due("wind(" + halfDay + ")", club.wind(halfDay), UNKNOWN);
                check.due("bookedAt(0, " + halfDay + ")", club.bookedAt(0, halfDay), UNKNOWN);
            }
            for (int halfDay = 0; halfDay < 200; halfDay++) {
                check.due("wind(" + halfDay + ")", club.wind(halfDay), halfDay == 0 ? 7 : 0);
                check.due("bookedAt(0, " + halfDay + ")", club.bookedAt(0, halfDay), NONE);
            }
        }
    }

    // ---- pass(): "1 to 20"; "NOT_POSSIBLE if the present one would become more than 199"

    private void checkPassed() {
        check.part("half days 1 to 20 that pass");
        for (int halfDays : new int[] {LEAST, -20, -1, 0, 21, GREATEST - 1, GREATEST}) {
            check.due("pass(" + halfDays + ")", new NotedClub().pass(halfDays), BAD_VALUE);
        }
        for (int halfDays = 1; halfDays <= 20; halfDays++) {
            NotedClub club = new NotedClub();
            check.due("pass(" + halfDays + ")", club.pass(halfDays), 0);
            check.due("count(0)", club.count(0), halfDays);
            check.due("count(15)", club.count(15), 1);
        }
    }

    private void checkTheLastHalfDay() {
        check.part("half day 199 never passes");
        for (int present = 179; present <= 199; present++) {
            for (int halfDays = 1; halfDays <= 20; halfDays++) {
                NotedClub club = Clubs.passTo(new NotedClub(), present);
                boolean isPossible = present + halfDays <= 199;
                check.due("pass(" + halfDays + ") at " + present, club.pass(halfDays), isPossible ? 0 : NOT_POSSIBLE);
                check.due("count(0)", club.count(0), isPossible ? present + halfDays : present);
            }
            NotedClub club = Clubs.passTo(new NotedClub(), present);
            check.due("pass(21) at " + present, club.pass(21), BAD_VALUE);
            check.due("pass(0) at " + present, club.pass(0), BAD_VALUE);
        }
    }

    // ---- what is told of which number

    private void checkWhat() {
        check.part("what is told");
        NotedClub club = Clubs.of(1, 50, 1, 1);
        club.book(0, 0, 0, 1, 2);
        club.order(0, 0, 1, 1, 0);
        for (int what : new int[] {LEAST, -2, -1, 17, 18, GREATEST}) {
            check.due("count(" + what + ")", club.count(what), BAD_VALUE);
        }
        for (int what : new int[] {LEAST, -1, 5, 6, 7, 8, 9, GREATEST}) {
            int machine = what == 5 ? NONE : what == 6 ? 0 : BAD_VALUE;
            check.due("machine(0, " + what + ")", club.machine(0, what), machine);
            check.due("machine(2, " + what + ")", club.machine(2, what), UNKNOWN);
            check.due("member(0, " + what + ")", club.member(0, what), what == 5 ? 0 : what == 6 ? 1 : BAD_VALUE);
            check.due("member(1, " + what + ")", club.member(1, what), UNKNOWN);
            int booking = what == 5 || what == 6 || what == 7 ? 0 : what == 8 ? 59 : BAD_VALUE;
            check.due("booking(0, " + what + ")", club.booking(0, what), booking);
            check.due("booking(1, " + what + ")", club.booking(1, what), UNKNOWN);
            check.due("move(0, " + what + ")", club.move(0, what), BAD_VALUE);
            check.due("move(1, " + what + ")", club.move(1, what), UNKNOWN);
        }
        check.due("move(0, 4)", club.move(0, 4), 0);
        check.due("move(0, 0)", club.move(0, 0), 0);
        check.due("count(16)", club.count(16), 0);
    }

    /** "An object is used for at most 512 calls": the last one of them is answered as the first one. */
    private void checkManyCalls() {
        check.part("512 calls");
        NotedClub club = new NotedClub();
        for (int call = 1; call <= 510; call++) {
            int wind = 1 + call % 99;
            check.due("setWind, call " + call, club.setWind(199, wind), call == 1 ? 0 : 1 + (call - 1) % 99);
        }
        check.due("call 511", club.undo(), 3);
        check.due("call 512", club.wind(199), 1 + 509 % 99);
    }
}
