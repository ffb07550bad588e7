import java.util.ArrayList;
import java.util.List;

/**
 * A club that notes its calls. The document leaves free what a 513th call answers: so this club takes at most 512, and
 * what a test wants to know besides is asked aside, of other clubs that had the same calls.
 */
final class NotedClub {
    static final int MOST_CALLS = 512;

    private interface Call {
        int on(BallastClub club);
    }

    private record Noted(Call call, int answer) {
    }

    private final BallastClub club = new BallastClub();
    private final List<Noted> noted = new ArrayList<>();
    private BallastClub aside;
    private int callsAside;

    /** How many calls this club has had. */
    int calls() {
        return noted.size();
    }

    /** A club that stands where this one stands, for one call that changes nothing. */
    BallastClub aside() {
        if (aside == null || callsAside == MOST_CALLS) {
            aside = again();
            callsAside = noted.size();
        }
        callsAside++;
        return aside;
    }

    /** "The same calls always give the same answers." */
    private BallastClub again() {
        if (noted.size() == MOST_CALLS) {
            throw new IllegalStateException("no call is left to ask aside");
        }
        BallastClub other = new BallastClub();
        for (Noted one : noted) {
            int answer = one.call.on(other);
            if (answer != one.answer) {
                throw new IllegalStateException("the same calls answered " + one.answer + ", then " + answer);
            }
        }
        return other;
    }

    private int note(Call call) {
        if (noted.size() == MOST_CALLS) {
            throw new IllegalStateException("a test makes more than " + MOST_CALLS + " calls");
        }
        aside = null;
        int answer = call.on(club);
        noted.add(new Noted(call, answer));
        return answer;
    }

    // ---- the face of BallastClub

    int addMachine(int strength, int blocks) {
        return note(one -> one.addMachine(strength, blocks));
    }

    int addMember() {
        return note(BallastClub::addMember);
    }

    int setWind(int halfDay, int wind) {
        return note(one -> one.setWind(halfDay, wind));
    }

    int book(int member, int machine, int halfDay, int load, int radius) {
        return note(one -> one.book(member, machine, halfDay, load, radius));
    }

    int cancel(int booking) {
        return note(one -> one.cancel(booking));
    }

    int swap(int booking, int other) {
        return note(one -> one.swap(booking, other));
    }

    int order(int member, int from, int to, int blocks, int halfDay) {
        return note(one -> one.order(member, from, to, blocks, halfDay));
    }

    int takeBack(int move) {
        return note(one -> one.takeBack(move));
    }

    int pass(int halfDays) {
        return note(one -> one.pass(halfDays));
    }

    int type(char character) {
        return note(one -> one.type(character));
    }

    int clearText() {
        return note(BallastClub::clearText);
    }

    int readWinds() {
        return note(BallastClub::readWinds);
    }

    int undo() {
        return note(BallastClub::undo);
    }

    int keep() {
        return note(BallastClub::keep);
    }

    int restore() {
        return note(BallastClub::restore);
    }

    int bears(int machine, int radius) {
        return note(one -> one.bears(machine, radius));
    }

    int willBear(int machine, int radius, int halfDay) {
        return note(one -> one.willBear(machine, radius, halfDay));
    }

    int windLimit(int load, int radius) {
        return note(one -> one.windLimit(load, radius));
    }

    int machine(int machine, int what) {
        return note(one -> one.machine(machine, what));
    }

    int member(int member, int what) {
        return note(one -> one.member(member, what));
    }

    int booking(int booking, int what) {
        return note(one -> one.booking(booking, what));
    }

    int move(int move, int what) {
        return note(one -> one.move(move, what));
    }

    int bookedAt(int machine, int halfDay) {
        return note(one -> one.bookedAt(machine, halfDay));
    }

    int machineFor(int halfDay, int load, int radius) {
        return note(one -> one.machineFor(halfDay, load, radius));
    }

    int fate(int booking) {
        return note(one -> one.fate(booking));
    }

    int wind(int halfDay) {
        return note(one -> one.wind(halfDay));
    }

    int count(int what) {
        return note(one -> one.count(what));
    }
}
