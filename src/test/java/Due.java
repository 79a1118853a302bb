/** Counts and prints the answers that are not the ones that are due. */
final class Due {
    private static final int PRINTED = 50;

    private String now = "";
    private int wrong = 0;
    private int asked = 0;

    /** What is asked from here on is printed under this name. */
    void begin(String name) {
        now = name + ": ";
    }

    void is(String what, long got, long want) {
        asked++;
        if (got != want) {
            fail(what + " answered " + got + ", due is " + want);
        }
    }

    void holds(String what, boolean holds) {
        asked++;
        if (!holds) {
            fail(what + " does not hold");
        }
    }

    private void fail(String told) {
        wrong++;
        if (wrong <= PRINTED) {
            System.out.println(now + told);
        }
    }

    boolean isClean() {
        return wrong == 0;
    }

    void end() {
        System.out.println(asked + " answers, " + wrong + " not as due");
        if (wrong != 0) {
            System.exit(1);
        }
    }
}
