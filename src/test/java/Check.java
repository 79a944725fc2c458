/** Counts answers that are not as due, and ends a test with exit code 1 if there were any. */
final class Check {
    private static final int MOST_SHOWN = 40;

    private final String name;
    private int checks = 0;
    private int wrong = 0;

    Check(String name) {
        this.name = name;
    }

    void due(String call, long got, long want) {
        checks++;
        if (got != want) {
            tellWrong(call + " answered " + got + ", due is " + want);
        }
    }

    void holds(String what, boolean is) {
        checks++;
        if (!is) {
            tellWrong(what + " does not hold");
        }
    }

    private void tellWrong(String text) {
        wrong++;
        if (wrong <= MOST_SHOWN) {
            System.out.println(name + ": " + text);
        }
    }

    int checks() {
        return checks;
    }

    int wrong() {
        return wrong;
    }

    void end() {
        System.out.println(name + ": " + checks + " checks, " + wrong + " wrong");
        if (wrong != 0) {
            System.exit(1);
        }
    }
}
