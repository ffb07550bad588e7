/** All that a club tells, as one text. */
final class Told {
    private Told() {
    }

    /** With the history's and the text's length, but without what the history and the snapshot hold. */
    static String all(BallastClub club) {
        StringBuilder told = new StringBuilder(state(club));
        told.append("h").append(club.count(15)).append(" t").append(club.count(16));
        return told.toString();
    }

    /** The state alone: what undo() and restore() bring back. */
    static String state(BallastClub club) {
        StringBuilder told = new StringBuilder();
        for (int what = 0; what <= 14; what++) {
            told.append(club.count(what)).append(' ');
        }
        for (int machine = 0; machine < club.count(1); machine++) {
            for (int what = 0; what <= 6; what++) {
                told.append(club.machine(machine, what)).append(' ');
            }
        }
        for (int member = 0; member < club.count(2); member++) {
            for (int what = 0; what <= 6; what++) {
                told.append(club.member(member, what)).append(' ');
            }
        }
        for (int booking = 0; booking < club.count(3); booking++) {
            for (int what = 0; what <= 8; what++) {
                told.append(club.booking(booking, what)).append(' ');
            }
            told.append(club.fate(booking)).append(' ');
        }
        for (int move = 0; move < club.count(8); move++) {
            for (int what = 0; what <= 4; what++) {
                told.append(club.move(move, what)).append(' ');
            }
        }
        for (int halfDay = 0; halfDay < 200; halfDay++) {
            told.append(club.wind(halfDay)).append(' ');
        }
        return told.toString();
    }
}
