/** Compares answers with those that are due; of each that differs it tells the line and the document's words. */
final class Due {
    private final String test;
    private String words = "";
    private int sentences;
    private int asked;
    private int wrong;
    private int askedBefore;

    Due(String test) {
        this.test = test;
    }

    /** The document's words by which the answers that follow are due. */
    void by(String quoted) {
        endSentence();
        words = quoted;
        sentences++;
        if (!Doc.says(quoted)) {
            tell("these words don't stand in the document");
        }
    }

    void is(long want, long got) {
        compare(Long.toString(want), Long.toString(got));
    }

    void yes(boolean got) {
        compare("true", Boolean.toString(got));
    }

    void no(boolean got) {
        compare("false", Boolean.toString(got));
    }

    void text(String want, String got) {
        compare(want, got);
    }

    void end() {
        endSentence();
        String parts = sentences == 0 ? "" : sentences + " sentences, ";
        System.out.println(test + ": " + parts + asked + " answers, " + wrong + " not as due");
        if (wrong != 0 || asked == 0) {
            System.exit(1);
        }
    }

    private void endSentence() {
        if (sentences > 0 && asked == askedBefore) {
            tell("nothing was asked by these words");
        }
        askedBefore = asked;
    }

    private void compare(String want, String got) {
        asked++;
        if (!want.equals(got)) {
            tell("answered " + got + ", due is " + want);
        }
    }

    private void tell(String what) {
        wrong++;
        String quote = words.isEmpty() ? "" : " (\"" + words + "\")";
        System.out.println(lineOfTest() + ": " + what + quote);
    }

    private static String lineOfTest() {
        for (StackTraceElement element : new Throwable().getStackTrace()) {
            if (element.getClassName().endsWith("Test")) {
                return element.toString();
            }
        }
        return "?";
    }
}
