import java.util.ArrayList;
import java.util.List;

/**
 * A club in a situation, which is made anew for every few questions: so all that a club tells can be compared, and yet
 * no club is used for more than 512 calls.
 */
final class Situation {
    /** Brings a new club into the situation, by at most 120 calls. */
    interface Story {
        void tell(NotedClub club);
    }

    /** One call of a club. */
    interface Call {
        int on(NotedClub club);
    }

    /** A call that must change nothing, and the error that is due; no error is due if that is null. */
    record Idle(String name, Call call, Integer due) {
    }

    private static final int MOST_IDLE = 60;
    private static final int PARTS = 5;
    /** The state now, those behind one to four calls of undo(), and that of restore(). */
    private static final int PASTS = 6;
    private static final int RESTORED = 5;

    private final String name;
    private final Story story;
    private final List<List<Integer>> told = new ArrayList<>();

    Situation(String name, Story story) {
        this.name = name;
        this.story = story;
        for (int past = 0; past < PASTS; past++) {
            for (int part = 0; part < PARTS; part++) {
                told.add(tell(club(), past, part));
            }
        }
    }

    NotedClub club() {
        NotedClub club = new NotedClub();
        story.tell(club);
        return club;
    }

    /** Each of the calls must answer as is due, and leave the state, the text, the history and the snapshot. */
    void checkIdle(Check check, List<Idle> calls) {
        for (int first = 0; first < calls.size(); first += MOST_IDLE) {
            List<Idle> some = calls.subList(first, Math.min(first + MOST_IDLE, calls.size()));
            checkAnswers(check, some);
            if (changes(some)) {
                for (Idle one : some) {
                    check.holds(name + ": " + one.name + " changed something", !changes(List.of(one)));
                }
                check.holds(name + ": " + some.get(0).name + " and what follows changed something", false);
            }
        }
    }

    private void checkAnswers(Check check, List<Idle> calls) {
        NotedClub club = club();
        for (Idle one : calls) {
            int answer = one.call.on(club);
            if (one.due != null) {
                check.due(name + ": " + one.name, answer, one.due);
            } else {
                check.holds(name + ": " + one.name + " answered " + answer, answer >= 0 || answer == BallastClub.NONE);
            }
        }
    }

    private boolean changes(List<Idle> calls) {
        for (int past = 0; past < PASTS; past++) {
            for (int part = 0; part < PARTS; part++) {
                NotedClub club = club();
                for (Idle one : calls) {
                    one.call.on(club);
                }
                if (!tell(club, past, part).equals(told.get(past * PARTS + part))) {
                    return true;
                }
            }
        }
        return false;
    }

    private static List<Integer> tell(NotedClub club, int past, int part) {
        List<Integer> answers = new ArrayList<>();
        if (past == RESTORED) {
            answers.add(club.restore());
        }
        for (int undone = 0; past != RESTORED && undone < past; undone++) {
            answers.add(club.undo());
        }
        switch (part) {
            case 0 -> tellCountsAndWinds(club, answers);
            case 1 -> tellMachinesMembersAndMoves(club, answers);
            case 2 -> tellBookings(club, answers);
            case 3 -> tellBookedAt(club, answers);
            default -> tellText(club, answers);
        }
        return answers;
    }

    private static void tellCountsAndWinds(NotedClub club, List<Integer> answers) {
        for (int what = 0; what <= 16; what++) {
            answers.add(club.count(what));
        }
        for (int halfDay = 0; halfDay < 200; halfDay++) {
            answers.add(club.wind(halfDay));
        }
    }

    private static void tellMachinesMembersAndMoves(NotedClub club, List<Integer> answers) {
        for (int what = 0; what <= 6; what++) {
            for (int machine = 0; machine <= 5; machine++) {
                answers.add(club.machine(machine, what));
            }
            for (int member = 0; member <= 8; member++) {
                answers.add(club.member(member, what));
            }
            for (int move = 0; move <= 10; move++) {
                answers.add(club.move(move, what));
            }
        }
    }

    private static void tellBookings(NotedClub club, List<Integer> answers) {
        for (int booking = 0; booking <= 30; booking++) {
            for (int what = 0; what <= 8; what++) {
                answers.add(club.booking(booking, what));
            }
            answers.add(club.fate(booking));
        }
    }

    private static void tellBookedAt(NotedClub club, List<Integer> answers) {
        int first = Math.max(club.count(0) - 10, 0);
        for (int machine = 0; machine <= 4; machine++) {
            for (int halfDay = first; halfDay < first + 50; halfDay++) {
                answers.add(club.bookedAt(machine, halfDay));
            }
            answers.add(club.willBear(machine, 20, first + 10));
            answers.add(club.willBear(machine, 20, 199));
        }
    }

    /** What the text says shows in what reading it does. */
    private static void tellText(NotedClub club, List<Integer> answers) {
        answers.add(club.readWinds());
        for (int halfDay = 0; halfDay < 200; halfDay++) {
            answers.add(club.wind(halfDay));
        }
        answers.add(club.clearText());
    }
}
