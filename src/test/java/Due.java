/** Compares answers with those that are due, and tells the line of each call that differs. */
final class Due {
    private final String test;
    private int asked;
    private int wrong;

    Due(String test) {
        this.test = test;
    }

    void is(long want, long got) {
        compare(Long.toString(want), Long.toString(got));
    }

    void yes(boolean got) {
        compare("true", Boolean.toString(got));
    }

    void no(boolean got) {
        compare("false", Boolean.toString(got));
    }

    void text(String want, String got) {
        compare(want, got);
    }

    void end() {
        System.out.println(test + ": " + asked + " answers, " + wrong + " not as due");
        if (wrong != 0 || asked == 0) {
            System.exit(1);
        }
    }

    private void compare(String want, String got) {
        asked++;
        if (!want.equals(got)) {
            wrong++;
            // 0 is this method, 1 the one that it serves, 2 the line of the test.
            System.out.println(new Throwable().getStackTrace()[2] + ": answered " + got + ", due is " + want);
        }
    }
}
