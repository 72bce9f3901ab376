/** Counts answers that are not as due, for one test's main method. */
final class Check {
    private final String test;
    private int wrong;
    private int asked;

    Check(String test) {
        this.test = test;
    }

    void due(String call, long got, long want) {
        asked++;
        if (got == want) return;
        wrong++;
        System.out.println(test + ": " + call + " answered " + got + ", due is " + want);
    }

    void holds(String what, boolean truth) {
        asked++;
        if (truth) return;
        wrong++;
        System.out.println(test + ": " + what + " does not hold");
    }

    boolean hasWrong() {
        return wrong > 0;
    }

    void end() {
        System.out.println(test + ": " + asked + " checks, " + wrong + " wrong");
        if (wrong > 0) System.exit(1);
    }
}
