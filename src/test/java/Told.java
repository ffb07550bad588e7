/** All that a club tells, as one text. It is asked aside, since it takes more calls than a club has. */
final class Told {
    private Told() {
    }

    /** With the history's and the text's length, but without what the history and the snapshot hold. */
    static String all(NotedClub club) {
        StringBuilder told = new StringBuilder(state(club));
        told.append("h").append(club.aside().count(15)).append(" t").append(club.aside().count(16));
        return told.toString();
    }

    /** The state alone: what undo() and restore() bring back. */
    static String state(NotedClub club) {
        StringBuilder told = new StringBuilder();
        for (int what = 0; what <= 14; what++) {
            told.append(club.aside().count(what)).append(' ');
        }
        int machines = club.aside().count(1);
        for (int machine = 0; machine < machines; machine++) {
            for (int what = 0; what <= 6; what++) {
                told.append(club.aside().machine(machine, what)).append(' ');
            }
        }
        int members = club.aside().count(2);
        for (int member = 0; member < members; member++) {
            for (int what = 0; what <= 6; what++) {
                told.append(club.aside().member(member, what)).append(' ');
            }
        }
        int bookings = club.aside().count(3);
        for (int booking = 0; booking < bookings; booking++) {
            for (int what = 0; what <= 8; what++) {
                told.append(club.aside().booking(booking, what)).append(' ');
            }
            told.append(club.aside().fate(booking)).append(' ');
        }
        int moves = club.aside().count(8);
        for (int move = 0; move < moves; move++) {
            for (int what = 0; what <= 4; what++) {
                told.append(club.aside().move(move, what)).append(' ');
            }
        }
        for (int halfDay = 0; halfDay < 200; halfDay++) {
            told.append(club.aside().wind(halfDay)).append(' ');
        }
        return told.toString();
    }
}
