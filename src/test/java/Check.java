/** Compares answers with those that are due, and ends the test with exit code 1 if one was wrong. */
final class Check {
    private final String name;
    private String part = "";
    private int checked;
    private int wrong;

    Check(String name) {
        this.name = name;
    }

    /** Says which promise, and what of it, the next answers are about. */
    void part(String text) {
        part = text;
    }

    void due(String call, long got, long want) {
        checked++;
        if (got != want) {
            wrong++;
            System.out.println(name + ", " + part + ": " + call + " answered " + got + ", due is " + want);
        }
    }

    void holds(String what, boolean is) {
        checked++;
        if (!is) {
            wrong++;
            System.out.println(name + ", " + part + ": " + what);
        }
    }

    /** What must answer an error or NONE, and change nothing that is told. */
    void refused(NotedClub club, String before, String call, long got, long want) {
        due(call, got, want);
        holds(call + " changed something", before.equals(Told.all(club)));
    }

    boolean isRight() {
        return wrong == 0;
    }

    void finish() {
        System.out.println(name + ": " + checked + " answers, " + wrong + " wrong");
        if (wrong != 0 || checked == 0) {
            System.exit(1);
        }
    }
}
