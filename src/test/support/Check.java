/** Counts answers that are not as due, prints them, and ends the test. */
final class Check {
    private static final int MOST_PRINTED = 40;
    private final String test;
    private int wrong;
    private int asked;

    Check(String test) {
        this.test = test;
    }

    void due(String call, int got, int want) {
        asked++;
        if (got != want) {
            tell(call + " answered " + got + ", due is " + want);
        }
    }

    void due(String call, boolean got, boolean want) {
        due(call, got ? 1 : 0, want ? 1 : 0);
    }

    void holds(String what, boolean is) {
        asked++;
        if (!is) {
            tell(what);
        }
    }

    boolean isClean() {
        return wrong == 0;
    }

    void end() {
        if (wrong > 0 || asked == 0) {
            System.out.println(test + ": " + wrong + " of " + asked + " answers are not as due");
            System.exit(1);
        }
        System.out.println(test + ": " + asked + " answers are as due");
    }

    private void tell(String line) {
        wrong++;
        if (wrong <= MOST_PRINTED) {
            System.out.println(test + ": " + line);
        }
    }
}
