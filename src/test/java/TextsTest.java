/** Promises 11 to 13: type, clearText, readWinds. */
public final class TextsTest {
    private static final int UNKNOWN = BallastClub.UNKNOWN;
    private static final int FULL = BallastClub.FULL;

    public static void main(String[] args) {
        Check check = new Check("TextsTest");
        checkTyping(check);
        checkFaults(check);
        checkReading(check);
        checkReadingIsOneAct(check);
        checkOverHalfDays(check);
        check.finish();
    }

    private static void typeAll(NotedClub club, String text) {
        club.clearText();
        for (int index = 0; index < text.length(); index++) {
            club.type(text.charAt(index));
        }
    }

    private static void checkTyping(Check check) {
        check.part("promises 11 and 12");
        NotedClub club = new NotedClub();
        char[] some = {'a', (char) 0, '\uffff', '1', ' '};
        for (int length = 0; length < 60; length++) {
            check.due("type", club.type(some[length % some.length]), length + 1);
        }
        check.due("count(16)", club.count(16), 60);
        String before = Told.all(club);
        check.refused(club, before, "a 61st", club.type('a'), FULL);
        check.due("no act", club.count(15), 0);
        check.due("clearText()", club.clearText(), 60);
        check.due("count(16)", club.count(16), 0);
        check.due("clearText() again", club.clearText(), 0);
        check.due("type", club.type('b'), 1);
        check.due("no act", club.count(15), 0);
        check.due("undo() leaves the text", club.undo(), BallastClub.NONE);
        check.due("count(16)", club.count(16), 1);
    }

    private static void checkFaults(Check check) {
        check.part("promise 13, faults");
        Object[][] faults = {
            {"", 0}, {"x", 0}, {":", 0}, {";", 0}, {" 1:1", 0}, {"-1:1", 0}, {"/", 0}, {"1", 1}, {"1x", 1},
            {"1/2", 1}, {"12", 2}, {"123", 3}, {"1234", 3}, {"1234:5", 3}, {"0", 1}, {"00", 1}, {"01", 1}, {"01:1", 1},
            {"10:", 3}, {"1:", 2}, {"1::", 2}, {"1:x", 2}, {"1:;", 2}, {"1: 2", 2}, {"1:00", 3}, {"1:05", 3},
            {"1:0x", 3}, {"1:12:", 4}, {"1:123", 4}, {"1:100", 4}, {"1:1;", 4}, {"1:1;;", 4}, {"1:1; 2:2", 4},
            {"1:1;2", 5}, {"1:1;2:", 6}, {"1:1;02:2", 5}, {"1:1;2:02", 7}, {"1:12;123:45;", 12}, {"1:12;123:45,", 11},
            {"1:12;123:456", 11}, {"1:12;1234", 8}, {"999:99;1", 8}, {"1:1:1", 3}, {"1;1", 1}, {"5:5 ", 3},
            {"0:0;0:0;0:0;0:0;0:0;0:0;0:0;0:0;0:0;0:0;0:0;0:0;0:0;0:0;0:0;", 60},
            {"0:0;0:0;0:0;0:0;0:0;0:0;0:0;0:0;0:0;0:0;0:0;0:0;0:0;0:0;0:00", 59},
            {"123:45;123:45;123:45;123:45;123:45;123:45;123:45;123:45;123:", 60},
            {"123:45;123:45;123:45;123:45;123:45;123:45;123:45;123:45;1:1;", 60}};
        for (Object[] fault : faults) {
            NotedClub club = new NotedClub();
            String text = (String) fault[0];
            typeAll(club, text);
            String before = Told.all(club);
            check.refused(club, before, "readWinds() of \"" + text + "\"", club.readWinds(), -100 - (int) fault[1]);
        }
        for (int sign = 0; sign < 65536; sign += sign < 300 ? 1 : 97) {
            NotedClub club = new NotedClub();
            club.type((char) sign);
            check.due("a text of the sign " + sign, club.readWinds(), sign >= '0' && sign <= '9' ? -101 : -100);
        }
    }

    private static void checkReading(Check check) {
        check.part("promise 13");
        NotedClub club = new NotedClub();
        typeAll(club, "0:0");
        check.due("readWinds(), nothing different", club.readWinds(), 1);
        check.due("an act all the same", club.count(15), 1);
        typeAll(club, "199:99;0:1;20:9;100:10;9:90");
        check.due("readWinds()", club.readWinds(), 5);
        check.due("wind(199)", club.wind(199), 99);
        check.due("wind(0)", club.wind(0), 1);
        check.due("wind(20)", club.wind(20), 9);
        check.due("wind(100)", club.wind(100), 10);
        check.due("wind(9)", club.wind(9), 90);
        check.due("the text stays", club.count(16), 27);
        check.due("count(15)", club.count(15), 2);
        typeAll(club, "7:7;7:8;7:0;7:6");
        check.due("one half day more than once", club.readWinds(), 4);
        check.due("the last one counts", club.wind(7), 6);
        check.due("the others stay", club.wind(0), 1);
        check.due("the others stay", club.wind(199), 99);
        typeAll(club, "0:0;1:1;2:2;3:3;4:4;5:5;6:6;7:7;8:8;9:9;0:1;1:2;2:3;3:4;4:52");
        check.due("as many as there can be", club.readWinds(), 15);
        check.due("wind(4)", club.wind(4), 52);
        check.due("wind(9)", club.wind(9), 9);
        typeAll(club, "200:5");
        String before = Told.all(club);
        check.refused(club, before, "half day 200", club.readWinds(), UNKNOWN);
        typeAll(club, "6:55;999:5");
        before = Told.all(club);
        check.refused(club, before, "half day 999 behind a good one", club.readWinds(), UNKNOWN);
        typeAll(club, "200:5;6:55");
        before = Told.all(club);
        check.refused(club, before, "half day 200 ahead of a good one", club.readWinds(), UNKNOWN);
        typeAll(club, "200:5;");
        check.due("the fault first", club.readWinds(), -106);
        typeAll(club, "3:33");
        check.due("behind a longer text", club.readWinds(), 1);
        check.due("wind(3)", club.wind(3), 33);
    }

    private static void checkReadingIsOneAct(Check check) {
        check.part("promise 13, one act");
        NotedClub club = new NotedClub();
        club.addMachine(100, 0);
        club.addMember();
        club.book(0, 0, 2, 1, 2);
        typeAll(club, "1:11;2:22;3:33");
        check.due("readWinds()", club.readWinds(), 3);
        check.due("the accepted wind stays", club.booking(0, 6), 0);
        check.due("count(15)", club.count(15), 4);
        check.due("undo()", club.undo(), 3);
        check.due("wind(1)", club.wind(1), 0);
        check.due("wind(3)", club.wind(3), 0);
        check.due("the text stays", club.count(16), 14);
        check.due("readWinds() again", club.readWinds(), 3);
        check.due("wind(3)", club.wind(3), 33);
    }

    private static void checkOverHalfDays(Check check) {
        check.part("promise 13, over");
        NotedClub club = new NotedClub();
        club.pass(5);
        typeAll(club, "5:1;4:1");
        String before = Told.all(club);
        check.refused(club, before, "half day 4 is over", club.readWinds(), UNKNOWN);
        typeAll(club, "5:1;6:1");
        check.due("half day 5 is the present one", club.readWinds(), 2);
        check.due("wind(5)", club.wind(5), 1);
    }
}
