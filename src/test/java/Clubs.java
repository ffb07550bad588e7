/** Clubs to begin a test with, and what many tests do with one. */
final class Clubs {
    private Clubs() {
    }

    /** Some members, and machines of one strength with these blocks. */
    static NotedClub of(int members, int strength, int... blocks) {
        NotedClub club = new NotedClub();
        for (int member = 0; member < members; member++) {
            club.addMember();
        }
        for (int count : blocks) {
            club.addMachine(strength, count);
        }
        return club;
    }

    /** Lets half days pass until this one is the present one. */
    static NotedClub passTo(NotedClub club, int halfDay) {
        for (int present = club.count(0); present < halfDay; present += 20) {
            club.pass(Math.min(20, halfDay - present));
        }
        return club;
    }

    /** Types this text in place of the one that was. */
    static NotedClub type(NotedClub club, String text) {
        club.clearText();
        for (int index = 0; index < text.length(); index++) {
            club.type(text.charAt(index));
        }
        return club;
    }
}
