/** Counts answers, prints those that are not due, and ends a test with exit code 1 if there was one. */
final class Checks {
    private final String name;
    private int made = 0;
    private int wrong = 0;
    private String about = "";

    Checks(String name) {
        this.name = name;
    }

    void about(String what) {
        about = what;
    }

    void due(String call, long got, long want) {
        made++;
        if (got != want) {
            wrong++;
            System.out.println(name + ", " + about + ": " + call + " answered " + got + ", due is " + want);
        }
    }

    void that(String claim, boolean holds) {
        due(claim, holds ? 1 : 0, 1);
    }

    int made() {
        return made;
    }

    int wrong() {
        return wrong;
    }

    void end() {
        System.out.println(name + ": " + made + " answers looked at, " + wrong + " not as due");
        if (made == 0 || wrong != 0) {
            System.exit(1);
        }
    }
}
