/** Counts answers that are not the ones that are due, prints them, and ends a test. */
final class Check {
    private final String name;
    private int asked;
    private int wrong;

    Check(String name) {
        this.name = name;
    }

    void due(String call, int got, int want) {
        asked++;
        if (got != want) {
            wrong++;
            System.out.println(name + ": " + call + " answered " + got + ", due is " + want);
        }
    }

    void holds(String what, boolean isSo) {
        asked++;
        if (!isSo) {
            wrong++;
            System.out.println(name + ": " + what);
        }
    }

    boolean hasWrong() {
        return wrong != 0;
    }

    void end() {
        System.out.println(name + ": " + asked + " answers, " + wrong + " not as due");
        if (wrong != 0) {
            System.exit(1);
        }
    }
}
