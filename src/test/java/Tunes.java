/** Short ways to make what the tests start from. */
final class Tunes {
    static final int NOTHING = -11, BEYOND = -12, CAST = -13, STORE = -14, SIZE = -15, RANGE = -16, STATE = -17;

    private Tunes() {
    }

    /** THE LINE becomes this text. */
    static void line(TuneSchool x, String text) {
        x.cutLine(0);
        for (int i = 0; i < text.length(); i++) {
            x.put(i, text.charAt(i));
        }
    }

    /** A VOICE becomes what this text tells, as read() takes it. */
    static void voice(TuneSchool x, int v, String text) {
        line(x, text);
        if (x.read(v) < 0) {
            throw new IllegalArgumentException(text);
        }
    }

    static String lineOf(TuneSchool x) {
        StringBuilder text = new StringBuilder();
        for (int i = 0; x.character(i) >= 0; i++) {
            text.append((char) x.character(i));
        }
        return text.toString();
    }

    /** What print() tells of a VOICE. */
    static String told(TuneSchool x, int v) {
        return x.print(v) < 0 ? "?" : lineOf(x);
    }

    /** A RULE of a KIND with these truths, as INTERVAL, MOTION or LEAP. */
    static void rule(TuneSchool x, int r, int kind, int as, int... truths) {
        x.rule(r, kind);
        for (int i : truths) {
            x.truth(r, as, i, true);
        }
    }

    static void allTrue(TuneSchool x, int r, int as, int many) {
        for (int i = 0; i < many; i++) {
            x.truth(r, as, i, true);
        }
    }

    static String traceOf(TuneSchool x) {
        StringBuilder text = new StringBuilder();
        for (int i = 0; x.trace(i) >= 0; i++) {
            text.append(i == 0 ? "" : " ").append(x.trace(i));
        }
        return text.toString();
    }

    static int same(String want, String got) {
        if (want.equals(got)) {
            return 1;
        }
        System.out.println("told \"" + got + "\", due is \"" + want + "\"");
        return 0;
    }
}
