import java.util.regex.Matcher;
import java.util.regex.Pattern;

/** "Terms", "TEXTS", and promises 11 to 13: each sentence at its bounds. */
public final class TextEdgesTest {
    private static final int UNKNOWN = BallastClub.UNKNOWN;
    private static final int FULL = BallastClub.FULL;
    private static final int NONE = BallastClub.NONE;

    private static final String WIND = "(0|[1-9][0-9]{0,2}):(0|[1-9][0-9]?)";
    private static final Pattern WINDS = Pattern.compile(WIND + "(;" + WIND + ")*");
    /** 15 winds in 59 characters. */
    private static final String MOST_WINDS = "0:1;1:1;2:1;3:1;4:1;5:1;6:1;7:1;8:1;9:1;0:2;1:2;2:2;3:2;4:2";

    private final Check check = new Check("TextEdgesTest");

    public static void main(String[] args) {
        new TextEdgesTest().run();
    }

    private void run() {
        checkLengths();
        checkFullText();
        checkAnyCharacter();
        checkTooEarly();
        checkDigitsOfHalfDay();
        checkDigitsOfWind();
        checkZeroInFront();
        checkBetweenWinds();
        checkCharactersBesideDigits();
        checkFaultsOfFullText();
        checkShortTexts();
        checkOneCharacterWrong();
        checkCounts();
        checkHalfDaysOfText();
        checkHalfDaysThatAreOver();
        checkFaultAheadOfUnknown();
        checkAllOrNone();
        checkOneAfterTheOther();
        checkOneAct();
        checkTextStays();
        checkBookingsStay();
        check.finish();
    }

    private static String some(int length) {
        return "1".repeat(length);
    }

    private void read(String text, int due) {
        NotedClub club = Clubs.type(new NotedClub(), text);
        check.due("readWinds() of \"" + text + "\"", club.readWinds(), due);
        check.due("its length \"" + text + "\"", club.count(16), text.length());
        check.due("the history behind \"" + text + "\"", club.count(15), due < 0 ? 0 : 1);
    }

    private void fault(String text, int due) {
        read(text, -100 - due);
    }

    // ---- "There is a text of at most 60 characters, empty at first."

    private void checkLengths() {
        for (int length = 0; length <= 60; length++) {
            check.part("a text of " + length + " characters");
            NotedClub club = new NotedClub();
            check.due("count(16), at first", club.count(16), 0);
            for (int typed = 1; typed <= length; typed++) {
                check.due("type('1')", club.type('1'), typed);
            }
            check.due("count(16)", club.count(16), length);
            check.due("clearText()", club.clearText(), length);
            check.due("count(16)", club.count(16), 0);
            check.due("clearText() again", club.clearText(), 0);
            check.due("type('1') behind it", club.type('1'), 1);
            check.due("no act", club.count(15), 0);
        }
    }

    private void checkFullText() {
        check.part("a full text");
        NotedClub club = Clubs.type(new NotedClub(), some(60));
        check.due("a 61st", club.type('1'), FULL);
        check.due("a 61st again", club.type((char) 0), FULL);
        check.due("count(16)", club.count(16), 60);
        check.due("readWinds()", club.readWinds(), -103);
        check.due("clearText()", club.clearText(), 60);
        for (int typed = 1; typed <= 60; typed++) {
            check.due("type('2')", club.type('2'), typed);
        }
        check.due("full again", club.type('2'), FULL);
    }

    /** "any character" */
    private void checkAnyCharacter() {
        check.part("any character");
        NotedClub club = new NotedClub();
        char[] some = {0, 1, '\n', ' ', '~', 127, 128, 255, 256, 0xd800, 0xdc00, 0xfffe, 0xffff};
        for (int typed = 0; typed < some.length; typed++) {
            check.due("type(" + (int) some[typed] + ")", club.type(some[typed]), typed + 1);
        }
        check.due("readWinds()", club.readWinds(), -100);
        check.due("clearText()", club.clearText(), some.length);
        for (char character : some) {
            fault("" + character, 0);
            fault("1:2" + character, 3);
        }
    }

    // ---- "the length of the text if it ends too early (the empty text does)"

    private void checkTooEarly() {
        check.part("texts that end too early");
        for (String text : new String[] {"", "0", "1", "12", "123", "0:", "1:", "12:", "123:", "0:0;", "1:1;", "1:12;",
            "1:1;2", "1:1;0", "1:1;23", "1:1;234", "1:1;2:", "1:1;234:", "1:1;2:2;", "999:99;999:99;"}) {
            fault(text, text.length());
        }
    }

    /** "A wind is a half day (one to three digits)" */
    private void checkDigitsOfHalfDay() {
        check.part("digits of a half day");
        read("1:5", 1);
        read("12:5", 1);
        read("123:5", 1);
        fault(":5", 0);
        fault("1234:5", 3);
        fault("1999:5", 3);
        fault("12345:5", 3);
        fault("1:5;:5", 4);
        fault("1:5;1234:5", 7);
        fault("1:5;123", 7);
        fault("1:5;1234", 7);
    }

    /** "and a wind (one or two digits)" */
    private void checkDigitsOfWind() {
        check.part("digits of a wind");
        read("1:5", 1);
        read("1:55", 1);
        read("1:10", 1);
        read("1:99", 1);
        fault("1:", 2);
        fault("1:;", 2);
        fault("1:100", 4);
        fault("1:555", 4);
        fault("1:5555", 4);
        fault("123:456", 6);
        fault("1:5;1:100", 8);
        fault("1:;2:2", 2);
    }

    /** "no number has a zero in front (unless it is the single digit 0)" */
    private void checkZeroInFront() {
        check.part("zero in front");
        read("0:0", 1);
        read("0:5", 1);
        read("5:0", 1);
        read("10:10", 1);
        read("100:20", 1);
        read("0:0;0:0", 2);
        fault("00:0", 1);
        fault("01:0", 1);
        fault("000:0", 1);
        fault("00", 1);
        fault("0:00", 3);
        fault("0:01", 3);
        fault("0:05;1:1", 3);
        fault("1:1;01:1", 5);
        fault("1:1;1:01", 7);
    }

    /** "one or more winds with \";\" between two" */
    private void checkBetweenWinds() {
        check.part("between two winds");
        read("1:1;2:2", 2);
        read("1:11;2:22;3:33", 3);
        fault(";", 0);
        fault(";1:1", 0);
        fault("1:1;", 4);
        fault("1:1;;2:2", 4);
        fault("1:1,2:2", 3);
        fault("1:1 ;2:2", 3);
        fault("1:1; 2:2", 4);
        fault("1:12:2", 4);
        fault("1:1:2:2", 3);
        fault("1;1", 1);
        fault("1::1", 2);
        fault("::", 0);
        fault("1:11;2:22:", 9);
    }

    /** The signs just beside '0' and '9', ':' and ';' where they aren't allowed. */
    private void checkCharactersBesideDigits() {
        check.part("characters beside digits");
        fault("/:1", 0);
        fault("::1", 0);
        fault("1/:1", 1);
        fault("1<1", 1);
        fault("19:/", 3);
        fault("19::", 3);
        fault("1:9/", 3);
        fault("1:9<2:2", 3);
        fault("-1:1", 0);
        fault("+1:1", 0);
        fault("1:-1", 2);
        fault("1:+1", 2);
        fault(" 1:1", 0);
        fault("1:1 ", 3);
        fault("" + (char) 0x661 + ":1", 0);
        fault("1:" + (char) 0xff11, 2);
        fault("1" + (char) ('1' + 256) + ":1", 1);
        fault("1" + (char) (':' + 256) + "1", 1);
    }

    private void checkFaultsOfFullText() {
        check.part("faults of a full text");
        String nine = "199:99;199:99;199:99;199:99;199:99;199:99;199:99;199:99;";
        check.due("length", nine.length(), 56);
        read(nine + "1:99", 9);
        read(nine + "19:9", 9);
        fault(nine + "1:9;", 60);
        fault(nine + "199:", 60);
        fault(nine + "1:9x", 59);
        fault(nine + "0:00", 59);
        fault(nine + "1999", 59);
        fault(nine + ";1:9", 56);
        fault(some(60), 3);
        fault(MOST_WINDS + ";", 60);
        fault(MOST_WINDS + ":", 59);
        read(MOST_WINDS + "0", 15);
        fault(MOST_WINDS.substring(0, 58), 58);
        fault(MOST_WINDS.substring(0, 56), 56);
        read(MOST_WINDS.substring(0, 55), 14);
    }

    // ---- "The fault of the text is the index, from 0, of the first character that is not allowed at its place"

    /** The longest beginning that could still become a text of winds ends there. */
    private static int faultOf(String text) {
        for (int length = 1; length <= text.length(); length++) {
            Matcher matcher = WINDS.matcher(text.substring(0, length));
            if (!matcher.matches() && !matcher.hitEnd()) {
                return length - 1;
            }
        }
        return text.length();
    }

    private void checkAsByPattern(String text) {
        NotedClub club = new NotedClub();
        for (int index = 0; index < text.length(); index++) {
            club.type(text.charAt(index));
        }
        int answer = club.readWinds();
        if (WINDS.matcher(text).matches()) {
            check.holds("readWinds() of \"" + text + "\" answered " + answer, answer > 0 || answer == UNKNOWN);
        } else {
            check.due("readWinds() of \"" + text + "\"", answer, -100 - faultOf(text));
        }
    }

    private void checkShortTexts() {
        check.part("all short texts");
        String signs = "017:;x";
        for (int length = 0; length <= 7; length++) {
            int texts = 1;
            for (int index = 0; index < length; index++) {
                texts *= signs.length();
            }
            for (int number = 0; number < texts; number++) {
                StringBuilder text = new StringBuilder();
                for (int rest = number; text.length() < length; rest /= signs.length()) {
                    text.append(signs.charAt(rest % signs.length()));
                }
                checkAsByPattern(text.toString());
            }
        }
    }

    /** Each character of a good text is changed, left out or doubled, and the text cut off there. */
    private void checkOneCharacterWrong() {
        check.part("one character is wrong");
        String text = "0:7;17:0;199:99;20:10;5:55;100:1;3:3;40:40;0:0;150:15;6:6;77";
        check.due("length", text.length(), 60);
        for (int index = 0; index < 60; index++) {
            String before = text.substring(0, index);
            String behind = text.substring(index + 1);
            for (char sign : "0159:;x/< ".toCharArray()) {
                checkAsByPattern(before + sign + behind);
            }
            checkAsByPattern(before);
            checkAsByPattern(before + behind);
            checkAsByPattern(before + behind.replace("77", "7:7"));
            checkAsByPattern((before + text.charAt(index) + text.charAt(index) + behind).substring(0, 60));
        }
    }

    // ---- readWinds()

    /** "Returns how many there are" */
    private void checkCounts() {
        for (int winds = 1; winds <= 15; winds++) {
            check.part(winds + " winds");
            NotedClub club = Clubs.type(new NotedClub(), MOST_WINDS.substring(0, 4 * winds - 1));
            check.due("readWinds()", club.readWinds(), winds);
            for (int halfDay = 0; halfDay < 10; halfDay++) {
                int due = halfDay >= winds ? 0 : halfDay + 10 < winds ? 2 : 1;
                check.due("wind(" + halfDay + ")", club.wind(halfDay), due);
            }
            check.due("count(15)", club.count(15), 1);
        }
    }

    /** "UNKNOWN if there is no such half day for any of them" */
    private void checkHalfDaysOfText() {
        check.part("half days of the text");
        for (int halfDay = 0; halfDay <= 999; halfDay++) {
            read(halfDay + ":7", halfDay <= 199 ? 1 : UNKNOWN);
        }
        read("200:0", UNKNOWN);
        read("199:1;200:1", UNKNOWN);
        read("200:1;199:1", UNKNOWN);
        read("5:1;999:1;6:1", UNKNOWN);
        read(MOST_WINDS.replace("2:2;3:2;4:2", "200:2;0:0"), UNKNOWN);
    }

    /** "or it is over" */
    private void checkHalfDaysThatAreOver() {
        for (int present : new int[] {1, 10, 199}) {
            check.part("half days of the text at " + present);
            NotedClub club = Clubs.passTo(new NotedClub(), present);
            int over = present - 1;
            String[] wrong = {over + ":5", "0:5", over + ":0", "199:5;" + over + ":5", over + ":5;199:5", "200:5"};
            for (String text : wrong) {
                check.due("readWinds() of \"" + text + "\"", Clubs.type(club, text).readWinds(), UNKNOWN);
            }
            check.due("wind(199)", club.wind(199), 0);
            check.due("readWinds(), the present one", Clubs.type(club, present + ":5").readWinds(), 1);
            check.due("wind(" + present + ")", club.wind(present), 5);
            check.due("readWinds(), the last one", Clubs.type(club, "199:6").readWinds(), 1);
            check.due("wind(199)", club.wind(199), 6);
        }
    }

    private void checkFaultAheadOfUnknown() {
        check.part("a fault and no such half day");
        fault("200:5;", 6);
        fault("200:500", 6);
        fault("999:5x", 5);
        fault("200", 3);
        NotedClub club = Clubs.passTo(new NotedClub(), 5);
        check.due("over, and a fault", Clubs.type(club, "4:5;5").readWinds(), -105);
        check.due("over", Clubs.type(club, "4:5;5:5").readWinds(), UNKNOWN);
    }

    /** "all of them, or none" */
    private void checkAllOrNone() {
        check.part("all of them, or none");
        NotedClub club = Clubs.passTo(new NotedClub(), 5);
        club.setWind(7, 70);
        String[] wrong = {"7:1;8:1;200:1", "7:1;8:1;4:1", "7:1;8:1;9", "7:1;8:1;", "7:1;8:1;9:1;10:1;05:1"};
        for (String text : wrong) {
            int answer = Clubs.type(club, text).readWinds();
            check.holds("readWinds() of \"" + text + "\" answered " + answer, answer < 0);
            check.due("wind(7)", club.wind(7), 70);
            check.due("wind(8)", club.wind(8), 0);
            check.due("count(15)", club.count(15), 2);
        }
    }

    /** "one after the other, as setWind() does" */
    private void checkOneAfterTheOther() {
        check.part("one after the other");
        NotedClub club = Clubs.type(new NotedClub(), "7:1;8:99;7:2;0:5;7:0;0:6;7:3");
        check.due("readWinds()", club.readWinds(), 7);
        check.due("wind(7)", club.wind(7), 3);
        check.due("wind(8)", club.wind(8), 99);
        check.due("wind(0)", club.wind(0), 6);
        check.due("wind(9)", club.wind(9), 0);
        check.due("setWind(7, 3)", club.setWind(7, 3), NONE);
        check.due("setWind(7, 4)", club.setWind(7, 4), 3);
    }

    /** "This is one act, also if nothing becomes different." */
    private void checkOneAct() {
        check.part("one act");
        NotedClub club = Clubs.type(new NotedClub(), MOST_WINDS);
        check.due("readWinds()", club.readWinds(), 15);
        check.due("count(15)", club.count(15), 1);
        check.due("readWinds(), nothing different", club.readWinds(), 15);
        check.due("count(15)", club.count(15), 2);
        check.due("undo()", club.undo(), 1);
        check.due("wind(4)", club.wind(4), 2);
        check.due("undo()", club.undo(), 0);
        check.due("wind(4)", club.wind(4), 0);
        check.due("wind(9)", club.wind(9), 0);
        check.due("undo()", club.undo(), NONE);
        Clubs.type(club, "199:0");
        check.due("readWinds(), as at first", club.readWinds(), 1);
        check.due("count(15)", club.count(15), 1);
    }

    /** "Tells the winds of the text, which stays" */
    private void checkTextStays() {
        check.part("the text stays");
        NotedClub club = Clubs.type(new NotedClub(), "7:1");
        check.due("readWinds()", club.readWinds(), 1);
        check.due("count(16)", club.count(16), 3);
        check.due("type('2')", club.type('2'), 4);
        check.due("readWinds()", club.readWinds(), 1);
        check.due("wind(7)", club.wind(7), 12);
        check.due("type('3')", club.type('3'), 5);
        check.due("readWinds(), a fault", club.readWinds(), -104);
        check.due("count(16)", club.count(16), 5);
        check.due("readWinds(), the same fault", club.readWinds(), -104);
        check.due("clearText()", club.clearText(), 5);
        check.due("readWinds(), empty", club.readWinds(), -100);
        check.due("wind(7)", club.wind(7), 12);
        Clubs.type(club, "200:1");
        check.due("readWinds(), no half day", club.readWinds(), UNKNOWN);
        check.due("count(16)", club.count(16), 5);
        check.due("clearText()", club.clearText(), 5);
        Clubs.type(club, "8:1");
        check.due("a shorter text has nothing of a longer one", club.readWinds(), 1);
    }

    private void checkBookingsStay() {
        check.part("accepted winds stay");
        NotedClub club = Clubs.of(1, 50, 0);
        club.book(0, 0, 7, 1, 2);
        Clubs.type(club, "7:70").readWinds();
        check.due("of an earlier booking", club.booking(0, 6), 0);
        check.due("fate(0)", club.fate(0), 2);
        club.cancel(0);
        club.book(0, 0, 7, 1, 2);
        check.due("of a later booking", club.booking(1, 6), 70);
        check.due("fate(1)", club.fate(1), 1);
    }
}
