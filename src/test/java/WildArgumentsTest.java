/** Any arguments in any state: no call throws, and one that answers an error or NONE changes nothing. */
public final class WildArgumentsTest {
    private static final int RUNS = 60;
    /** Behind these, too few calls are left to ask aside. */
    private static final int COMPARED_CALLS = 420;
    private static final int[] WILD = {
        Integer.MIN_VALUE, Integer.MIN_VALUE + 1, -200, -6, -5, -1, 0, 1, 2, 3, 9, 10, 11, 12, 13, 29, 30, 31, 59, 60,
        61, 99, 100, 198, 199, 200, 201, 1999, 2000, 2001, Integer.MAX_VALUE - 19, Integer.MAX_VALUE - 1,
        Integer.MAX_VALUE};

    private final Numbers numbers;
    private final NotedClub club = new NotedClub();

    private WildArgumentsTest(int run) {
        numbers = new Numbers(1000 + run);
    }

    public static void main(String[] args) {
        Check check = new Check("WildArgumentsTest");
        for (int run = 0; run < RUNS; run++) {
            check.part("run " + run);
            new WildArgumentsTest(run).run(check);
        }
        check.finish();
    }

    private void run(Check check) {
        String before = Told.all(club);
        for (int call = 0; call < NotedClub.MOST_CALLS; call++) {
            int kind = numbers.below(27);
            try {
                int answer = call(kind);
                check.holds("call " + call + " of the kind " + kind + " answered " + answer,
                        answer >= -5 || kind == 11 && answer <= -100 && answer >= -160);
                if (call < COMPARED_CALLS) {
                    String after = Told.all(club);
                    check.holds("call " + call + " of the kind " + kind + " changed something",
                            answer >= 0 || after.equals(before));
                    before = after;
                }
            } catch (RuntimeException thrown) {
                check.holds("call " + call + " of the kind " + kind + " threw " + thrown, false);
            }
        }
    }

    private int any() {
        if (numbers.once(3)) {
            return WILD[numbers.below(WILD.length)];
        }
        return numbers.below(numbers.once(2) ? 4 : 25);
    }

    private int call(int kind) {
        switch (kind) {
            case 0:
                return club.addMachine(any(), any());
            case 1:
                return club.addMember();
            case 2:
                return club.setWind(any(), any());
            case 3:
                return club.book(any(), any(), any(), any(), any());
            case 4:
                return club.cancel(any());
            case 5:
                return club.swap(any(), any());
            case 6:
                return club.order(any(), any(), any(), any(), any());
            case 7:
                return club.takeBack(any());
            case 8:
                return club.pass(any());
            case 9:
                return club.type((char) (numbers.once(3) ? any() : '0' + numbers.below(12)));
            case 10:
                return numbers.once(9) ? club.clearText() : club.type('1');
            case 11:
                return club.readWinds();
            case 12:
                return club.undo();
            case 13:
                return club.keep();
            case 14:
                return club.restore();
            default:
                return question(kind);
        }
    }

    private int question(int kind) {
        switch (kind) {
            case 15:
                return club.bears(any(), any());
            case 16:
                return club.willBear(any(), any(), any());
            case 17:
                return club.windLimit(any(), any());
            case 18:
                return club.machine(any(), any());
            case 19:
                return club.member(any(), any());
            case 20:
                return club.booking(any(), any());
            case 21:
                return club.move(any(), any());
            case 22:
                return club.bookedAt(any(), any());
            case 23:
                return club.machineFor(any(), any(), any());
            case 24:
                return club.fate(any());
            case 25:
                return club.wind(any());
            default:
                return club.count(any());
        }
    }
}
