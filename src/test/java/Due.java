/** Holds answers against those that are due, and tells where one is not. */
final class Due {
    private int asked;
    private int wrong;

    void is(int want, int got) {
        asked++;
        if (got != want) {
            wrong++;
            StackTraceElement at = new Throwable().getStackTrace()[1];
            System.out.println(at.getFileName() + ":" + at.getLineNumber() + " (" + at.getMethodName()
                    + ") answered " + got + ", due is " + want);
        }
    }

    void end() {
        System.out.println(asked + " answers, " + wrong + " not as due");
        if (wrong != 0) {
            System.exit(1);
        }
    }
}
