/** Promises 23 to 28, and the bodies that they run. */
public final class FaultsTest {
    private static final Due due = new Due();
    private static final int BAD = TuneSchool.BAD, NONE = TuneSchool.NONE;
    private static final String LONG = "60:8 60:8 60:8 60:8 60:8 60:8 60:8 60:8 60:8 60:8 60:8 60:8 "
            + "60:8 60:8 60:8 60:8 60:8 60:8 60:8 60:8 60:8 60:8 60:8 60:8";

    public static void main(String[] args) {
        orderOfAsking();
        interval();
        ways();
        motionNeedsBothAhead();
        cadence();
        leap();
        leapUnanswered();
        firstTwoHundred();
        faultsFindings();
        fault();
        mendInterval();
        mendCadence();
        mendAsItIsNow();
        mendFindings();
        canon();
        canonOfCadence();
        canonFindings();
        canons();
        follows();
        followsFindings();
        due.end();
    }

    private static TuneSchool two(String a, String b) {
        TuneSchool x = new TuneSchool();
        Tunes.voice(x, 0, a);
        Tunes.voice(x, 1, b);
        return x;
    }

    private static void orderOfAsking() {
        TuneSchool x = two("60:1", "61:1");
        String[] want = {"10 10 1 10", "10 10 2 1 10", "11 4 11 11 4", "10 10 3 2 1 10"};
        for (int kind = 0; kind < 4; kind++) {
            x.rule(kind, kind);
            due.is(kind == 2 ? 0 : 1, x.faults(kind));
            due.is(1, Tunes.same(want[kind], Tunes.traceOf(x)));
        }
        x.school(4, 0, 4);
        x.seat(4, 0, 2);
        x.seat(4, 2, 0);
        x.seat(4, 3, 0);
        due.is(2, x.faults(4));
        due.is(1, Tunes.same("11 4 10 10 11 10 1 10 1 11 4 10 10", Tunes.traceOf(x)));
        due.is(2, x.fault(0, 0));
        due.is(3, x.fault(1, 0));
        x.school(4, 0, 0);
        due.is(0, x.faults(4));
        due.is(0, x.count(2));
        Tunes.voice(x, 0, "60:1 60:1");
        due.is(1, x.faults(0));
        due.is(1, Tunes.same("10 10 1 10 10", Tunes.traceOf(x)));
    }

    private static void interval() {
        for (int far = 0; far < 30; far++) {
            TuneSchool x = two("50:1", (50 + far) + ":1");
            Tunes.rule(x, 0, 0, 0, far % 12);
            due.is(0, x.faults(0));
            Tunes.allTrue(x, 0, 0, 12);
            x.truth(0, 0, far % 12, false);
            due.is(1, x.faults(0));
        }
        TuneSchool x = two("R:1 60:8", "71:8");
        x.rule(0, 0);
        due.is(1, x.faults(0));
        due.is(4, x.fault(0, 1));
        Tunes.voice(x, 3, "60:1");
        due.is(2, x.faults(0));
        due.is(0, x.fault(0, 1));
        due.is(1, x.fault(0, 2));
        due.is(3, x.fault(0, 3));
    }

    private static void ways() {
        int[][] moves = {{60, 62, 67, 69, 36 + 7}, {62, 60, 69, 67, 36 + 7}, {60, 62, 67, 68, 24 + 6},
            {62, 60, 69, 68, 24 + 8}, {60, 60, 67, 69, 12 + 9}, {60, 59, 67, 67, 12 + 8}, {60, 62, 67, 65, 3},
            {60, 58, 67, 69, 11}, {60, 74, 62, 60, 2}, {72, 70, 60, 58, 36}};
        for (int[] m : moves) {
            TuneSchool x = two(m[0] + ":1 " + m[1] + ":1", m[2] + ":1 " + m[3] + ":1");
            Tunes.rule(x, 0, 1, 1, m[4]);
            Tunes.allTrue(x, 0, 0, 12);
            due.is(0, x.faults(0));
            Tunes.allTrue(x, 0, 1, 48);
            x.truth(0, 1, m[4], false);
            due.is(1, x.faults(0));
            due.is(1, x.fault(0, 1));
        }
    }

    private static void motionNeedsBothAhead() {
        String[][] still = {{"60:2", "67:2"}, {"R:1 60:1", "66:1 67:1"}, {"61:1 60:1", "R:1 67:1"},
            {"60:1 60:1", "67:1 67:1"}};
        for (String[] ab : still) {
            TuneSchool x = two(ab[0], ab[1]);
            x.rule(0, 1);
            Tunes.allTrue(x, 0, 0, 12);
            due.is(0, x.faults(0));
        }
        TuneSchool x = two("60:1 61:1", "67:1 68:1");
        x.rule(0, 1);
        x.strong(1);
        due.is(2, x.faults(0));
    }

    private static void cadence() {
        String[][] runs = {{"60:4", "67:2 60:1"}, {"60:4", "67:2 72:1 R:1"}, {"60:4", "60:2 67:1"},
            {"60:4", "60:2 67:1 R:1"}, {"60:1 R:1 60:1", "67:2 72:1"}, {"60:1 R:1 60:2", "67:1 67:3"},
            {"60:2 R:2", "R:1 67:3"}};
        int[] faultAt = {NONE, NONE, 2, 2, NONE, 3, 1};
        for (int k = 0; k < runs.length; k++) {
            TuneSchool x = two(runs[k][0], runs[k][1]);
            x.rule(0, 3);
            Tunes.allTrue(x, 0, 0, 12);
            Tunes.allTrue(x, 0, 1, 48);
            due.is(faultAt[k] == NONE ? 0 : 1, x.faults(0));
            due.is(faultAt[k], x.fault(0, 1));
            x.rule(0, 1);
            Tunes.allTrue(x, 0, 0, 12);
            Tunes.allTrue(x, 0, 1, 48);
            due.is(0, x.faults(0));
        }
        cadenceAtTheLastTickOfAll();
    }

    private static void cadenceAtTheLastTickOfAll() {
        TuneSchool x = two(LONG, LONG);
        x.note(1, 23, 61, 8);
        x.rule(0, 3);
        Tunes.allTrue(x, 0, 0, 12);
        Tunes.allTrue(x, 0, 1, 48);
        due.is(1, x.faults(0));
        due.is(191, x.fault(0, 1));
        due.is(191, x.canon(0, 0, 0, 1, 0));
    }

    private static void leap() {
        String[] tunes = {"60:1 67:2 66:1", "60:1 67:1 67:1 65:1", "60:1 67:2 64:1", "60:1 67:2 68:1",
            "60:1 67:2 R:1 70:1", "60:1 67:8", "67:1 60:1 61:1", "67:1 60:1 62:1", "67:1 60:1 63:1",
            "67:1 60:1 59:1", "60:1 R:1 67:1 90:1", "60:1 67:1 60:1 62:1", "60:1 67:0 69:1 90:1"};
        int[] want = {0, 0, 1, 1, 0, 0, 0, 0, 1, 1, 0, 1, 0};
        for (int k = 0; k < tunes.length; k++) {
            TuneSchool x = new TuneSchool();
            Tunes.voice(x, 5, tunes[k]);
            Tunes.rule(x, 0, 2, 2, 7);
            due.is(want[k], x.faults(0));
            if (want[k] == 1) {
                due.is(1, x.fault(0, 1));
                due.is(5, x.fault(0, 2));
                due.is(5, x.fault(0, 3));
            }
        }
    }

    private static void leapUnanswered() {
        for (int far = 1; far < 40; far++) {
            TuneSchool x = new TuneSchool();
            Tunes.voice(x, 0, "60:1 " + (60 + far) + ":1 110:1");
            Tunes.rule(x, 0, 2, 2, Math.min(far, 24));
            due.is(1, x.faults(0));
            x.truth(0, 2, Math.min(far, 24), false);
            due.is(0, x.faults(0));
        }
        TuneSchool x = two("60:1 67:1 70:1", "60:1 67:1 70:1");
        Tunes.rule(x, 0, 2, 2, 7);
        due.is(2, x.faults(0));
        due.is(1, x.fault(1, 2));
    }

    private static void firstTwoHundred() {
        TuneSchool x = new TuneSchool();
        for (int v = 0; v < 6; v++) {
            Tunes.voice(x, v, LONG);
        }
        x.rule(0, 0);
        x.strong(1);
        due.is(192 * 15, x.faults(0));
        due.is(192 * 15, x.count(0));
        due.is(13, x.fault(199, 1));
        due.is(0, x.fault(199, 2));
        due.is(5, x.fault(199, 3));
        due.is(1, x.fault(20, 1));
        due.is(1, x.fault(20, 2));
        due.is(2, x.fault(20, 3));
        due.is(NONE, x.fault(200, 1));
        due.is(192 * (21 + 15), x.count(2));
        due.is(1, x.trace(59) > 0 ? 1 : 0);
        due.is(NONE, x.trace(60));
        due.is(NONE, x.mend(200));
        x.truth(0, 0, 0, true);
        due.is(0, x.faults(0));
        due.is(NONE, x.fault(0, 1));
    }

    private static void faultsFindings() {
        TuneSchool x = two("60:2", "61:2");
        x.rule(0, 0);
        due.is(1, x.faults(0));
        due.is(8, x.count(2));
        due.is(BAD, x.faults(16));
        due.is(BAD, x.faults(-1));
        due.is(8, x.count(2));
        due.is(Tunes.NOTHING, x.faults(9));
        due.is(0, x.count(2));
        due.is(1, x.count(0));
        due.is(0, x.fault(0, 1));
        x.cut(1, 1, 0);
        due.is(Tunes.BEYOND, x.faults(9));
        due.is(Tunes.BEYOND, x.faults(0));
        due.is(1, x.count(0));
        due.is(0, x.fault(0, 1));
        x.drop(1);
        due.is(0, x.faults(0));
        due.is(0, x.count(0));
    }

    private static void fault() {
        TuneSchool x = two("60:1", "61:1");
        x.rule(0, 0);
        x.faults(0);
        due.is(NONE, x.fault(0, 0));
        due.is(0, x.fault(0, 1));
        due.is(0, x.fault(0, 2));
        due.is(1, x.fault(0, 3));
        due.is(BAD, x.fault(0, 4));
        due.is(BAD, x.fault(0, -1));
        due.is(BAD, x.fault(7, 4));
        due.is(NONE, x.fault(1, 0));
        due.is(NONE, x.fault(-1, 3));
        due.is(NONE, x.fault(Integer.MAX_VALUE, 3));
        x.undo();
        x.undo();
        x.fault(0, 0);
        due.is(7, x.status());
    }

    /** Voices of one TICK, an INTERVAL with one truth: what mend() gives, and how many bodies it ran. */
    private static void mends(int p, int q, int rests, int want, int bodies) {
        TuneSchool x = two(p + ":1", q + ":1");
        x.rule(0, 0);
        due.is(1, x.faults(0));
        if (rests >= 0) {
            x.truth(0, 0, rests, true);
        }
        due.is(want, x.mend(0));
        due.is(21, x.trace(0));
        due.is(bodies, x.count(2));
        due.is(0, x.status());
    }

    private static void mendInterval() {
        mends(60, 61, 2, 59, 2);
        mends(60, 61, 0, 61, 3);
        mends(60, 61, 1, 62, 5);
        mends(60, 61, 7, 54, 12);
        mends(1, 2, 11, 13, 13);
        mends(120, 119, 11, 108, 13);
        mends(60, 61, -1, NONE, 49);
        mends(1, 61, -1, NONE, 25);
        mends(10, 61, -1, NONE, 1 + 9 + 24);
        mends(120, 61, -1, NONE, 25);
        mends(24, 61, -1, NONE, 1 + 23 + 24);
        mends(97, 61, -1, NONE, 1 + 23 + 24);
    }

    private static void mendCadence() {
        TuneSchool x = two("60:1 60:1", "61:1 60:1");
        Tunes.rule(x, 0, 3, 0, 7);
        Tunes.allTrue(x, 0, 1, 48);
        due.is(1, x.faults(0));
        due.is(54, x.mend(0));
        due.is(1 + 3 + 1 + 11 * 3, x.count(2));
        due.is(1, Tunes.same("22 3 2 1 21 3 2 1 3 2 1", Tunes.traceOf(x).substring(0, 23)));
        x = two("21:1", "68:1");
        x.rule(0, 3);
        Tunes.allTrue(x, 0, 0, 12);
        due.is(1, x.faults(0));
        due.is(68, x.mend(0));
        due.is(1, Tunes.same("22 3 2 1", Tunes.traceOf(x)));
        x = two("60:1 62:1", "67:1 69:1");
        Tunes.rule(x, 0, 1, 1, 12 + 9);
        Tunes.allTrue(x, 0, 0, 12);
        due.is(1, x.faults(0));
        due.is(60, x.mend(0));
        due.is(1, Tunes.same("21 2 1 2 1 2 1", Tunes.traceOf(x)));
    }

    private static void mendAsItIsNow() {
        TuneSchool x = two("60:1", "61:1");
        x.rule(0, 0);
        x.school(1, 0, 1);
        x.seat(1, 0, 0);
        due.is(1, x.faults(1));
        x.truth(0, 0, 7, true);
        x.clear(0);
        x.clear(1);
        due.is(54, x.mend(0));
        x.note(1, 0, 66, 1);
        due.is(59, x.mend(0));
        x.note(0, 0, 70, 1);
        due.is(73, x.mend(0));
        x.note(0, 0, 59, 1);
        due.is(47, x.mend(0));
        Tunes.voice(x, 0, "60:2 60:1");
        Tunes.voice(x, 1, "61:2 61:1");
        x.rule(0, 0);
        x.strong(2);
        due.is(2, x.faults(0));
        x.strong(3);
        due.is(59, x.mend(1));
        due.is(1, Tunes.same("21 1", Tunes.traceOf(x)));
    }

    private static void mendFindings() {
        TuneSchool x = two("60:1", "61:1");
        due.is(NONE, x.mend(0));
        Tunes.rule(x, 0, 0, 0, 2);
        due.is(1, x.faults(0));
        due.is(NONE, x.mend(1));
        due.is(NONE, x.mend(-1));
        due.is(0, x.count(2));
        x.cut(0, 1, 0);
        due.is(Tunes.BEYOND, x.mend(0));
        due.is(NONE, x.mend(5));
        x.drop(0);
        due.is(NONE, x.mend(0));
        x.cut(1, 1, 0);
        due.is(Tunes.BEYOND, x.mend(0));
        due.is(0, x.count(2));
        Tunes.voice(x, 0, "60:1");
        due.is(Tunes.BEYOND, x.mend(0));
        Tunes.voice(x, 1, "R:1 61:1");
        due.is(NONE, x.mend(0));
        Tunes.voice(x, 1, "61:1");
        due.is(59, x.mend(0));
        Tunes.rule(x, 0, 2, 2, 7);
        Tunes.voice(x, 1, "60:1 67:1 90:1");
        due.is(1, x.faults(0));
        due.is(NONE, x.mend(0));
        due.is(1, Tunes.same("20", Tunes.traceOf(x)));
    }

    private static void canon() {
        TuneSchool x = threeNotes();
        due.is(4, x.canon(2, 0, 2, 0, 0));
        due.is(1, Tunes.same("10 1 10 1 10 1", Tunes.traceOf(x)));
        due.is(NONE, x.canon(2, 0, 4, 0, 0));
        due.is(1, Tunes.same("10 1 10 1", Tunes.traceOf(x)));
        due.is(NONE, x.canon(2, 0, 6, 0, 0));
        due.is(0, x.count(2));
        due.is(0, x.canon(2, 0, 0, 1, 0));
        due.is(NONE, x.canon(2, 0, 0, 12, 0));
        due.is(NONE, x.canon(2, 0, 0, -7, 0));
        due.is(NONE, x.canon(2, 0, 60, -60, 2));
        due.is(2, x.canon(2, 0, 2, 12, 1));
        due.is(2, x.canon(2, 0, 0, 0, 1));
        due.is(4, x.canon(2, 0, 0, 0, 2));
        due.is(NONE, x.canon(2, 0, 2, 0, 2));
        Tunes.rule(x, 1, 2, 2, 4);
        due.is(NONE, x.canon(2, 1, 0, 0, 0));
        due.is(1, Tunes.same("11 11 11 11 11 11", Tunes.traceOf(x)));
        x.school(3, 0, 3);
        x.seat(3, 0, 1);
        x.seat(3, 2, 0);
        due.is(0, x.canon(2, 3, 0, 1, 0));
        due.is(1, Tunes.same("11 10 1", Tunes.traceOf(x)));
    }

    private static void canonOfCadence() {
        TuneSchool x = new TuneSchool();
        Tunes.voice(x, 0, "60:1 62:1 67:1 60:1");
        x.rule(0, 3);
        Tunes.allTrue(x, 0, 0, 12);
        Tunes.allTrue(x, 0, 1, 48);
        due.is(3, x.canon(0, 0, 1, 0, 0));
        due.is(NONE, x.canon(0, 0, 1, -7, 0));
        due.is(NONE, x.canon(0, 0, 3, 0, 0));
        x.truth(0, 1, 36 + 2, false);
        due.is(NONE, x.canon(0, 0, 1, -7, 0));
        x.truth(0, 1, 24, false);
        due.is(2, x.canon(0, 0, 1, -7, 0));
    }

    private static void canonFindings() {
        TuneSchool x = new TuneSchool();
        due.is(Tunes.NOTHING, x.canon(0, 0, 1, 0, 0));
        Tunes.voice(x, 0, "60:1");
        due.is(Tunes.NOTHING, x.canon(0, 0, 1, 0, 0));
        due.is(Tunes.NOTHING, x.canons(0, 0, 0, 0));
        due.is(Tunes.NOTHING, x.canons(1, 0, 0, 0));
        x.cut(0, 1, 0);
        due.is(Tunes.BEYOND, x.canon(0, 0, 1, 0, 0));
        due.is(Tunes.BEYOND, x.canons(0, 0, 0, 0));
        Tunes.voice(x, 0, "60:1");
        x.rule(0, 0);
        due.is(0, x.canon(0, 0, 0, 0, 0));
        int[][] bad = {{6, 0, 1, 0, 0}, {-1, 0, 1, 0, 0}, {0, 16, 1, 0, 0}, {0, -1, 1, 0, 0}, {0, 0, -1, 0, 0},
            {0, 0, 61, 0, 0}, {0, 0, 1, 61, 0}, {0, 0, 1, -61, 0}, {0, 0, 1, 0, 3}, {0, 0, 1, 0, -1}};
        for (int[] b : bad) {
            due.is(BAD, x.canon(b[0], b[1], b[2], b[3], b[4]));
            if (b[2] == 1) {
                due.is(BAD, x.canons(b[0], b[1], b[3], b[4]));
            }
        }
        due.is(2, x.count(2));
        due.is(NONE, x.canon(0, 0, 60, 60, 2));
        due.is(0, x.count(2));
    }

    private static void canons() {
        TuneSchool x = threeNotes();
        due.is((1 << 20) - 1 - 3, x.canons(2, 0, 0, 0));
        due.is(8 + 6 + 6 + 4 + 2, x.count(2));
        for (int how = 0; how < 3; how++) {
            for (int by = -60; by <= 60; by += 5) {
                x = threeNotes();
                int bits = 0;
                for (int k = 1; k <= 20; k++) {
                    bits |= x.canon(2, 0, k, by, how) == NONE ? 1 << (k - 1) : 0;
                }
                due.is(bits, x.canons(2, 0, by, how));
            }
        }
    }

    private static TuneSchool threeNotes() {
        TuneSchool x = new TuneSchool();
        Tunes.voice(x, 2, "60:2 64:2 67:2");
        Tunes.rule(x, 0, 0, 0, 0, 4, 7);
        x.strong(2);
        return x;
    }

    private static void follows() {
        TuneSchool x = new TuneSchool();
        Tunes.voice(x, 0, "R:1 70:0 60:2 R:1 65:1 R:2");
        int[] plain = {0, 0, 0, 63, 63, 0, 68, 0, 0};
        int[] upsideDown = {0, 0, 0, 80, 80, 0, 75, 0, 0};
        int[] twice = {0, 0, 0, 0, 63, 63, 63, 63, 0, 0, 68, 68, 0, 0, 0, 0, 0};
        for (int t = 0; t < plain.length; t++) {
            due.is(plain[t], x.follows(0, t, 2, 3, 0));
            due.is(upsideDown[t], x.follows(0, t, 2, 0, 1));
        }
        for (int t = 0; t < twice.length; t++) {
            due.is(twice[t], x.follows(0, t, 2, 3, 2));
        }
        due.is(120, x.follows(0, 1, 0, 60, 0));
        due.is(0, x.follows(0, 4, 0, 60, 0));
        due.is(0, x.follows(0, 1, 0, -60, 0));
        due.is(5, x.follows(0, 4, 0, -60, 0));
        due.is(0, x.follows(0, 1000, 0, 0, 0));
        due.is(0, x.follows(0, 1000, 60, 0, 2));
        Tunes.voice(x, 0, "1:1 120:1");
        due.is(0, x.follows(0, 1, 0, 0, 1));
        due.is(1, x.follows(0, 0, 0, 0, 1));
    }

    private static void followsFindings() {
        TuneSchool x = new TuneSchool();
        due.is(Tunes.NOTHING, x.follows(0, 0, 0, 0, 0));
        x.voice(0, 1);
        due.is(0, x.follows(0, 0, 0, 0, 1));
        x.cut(0, 1, 0);
        due.is(Tunes.BEYOND, x.follows(0, 0, 60, 0, 0));
        int[][] bad = {{6, 0, 0, 0, 0}, {-1, 0, 0, 0, 0}, {0, -1, 0, 0, 0}, {0, 1001, 0, 0, 0}, {0, 0, -1, 0, 0},
            {0, 0, 61, 0, 0}, {0, 0, 0, 61, 0}, {0, 0, 0, -61, 0}, {0, 0, 0, 0, 3}, {0, 0, 0, 0, -1}};
        for (int[] b : bad) {
            due.is(BAD, x.follows(b[0], b[1], b[2], b[3], b[4]));
        }
        due.is(2, x.status());
    }
}
