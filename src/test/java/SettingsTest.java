/** Promises 29 to 35; that the tunes are the best ones is held against all tunes in AllTunesTest. */
public final class SettingsTest {
    private static final Due due = new Due();
    private static final int BAD = TuneSchool.BAD, NONE = TuneSchool.NONE, FAR = 1000000000;

    public static void main(String[] args) {
        ordinary();
        leasts();
        stepByStep();
        aloneAndBelow();
        badNumbers();
        givenFindings();
        voiceMissingOrShort();
        noTune();
        nothingAtThePlace();
        notHeard();
        withoutNotes();
        noneHeard();
        givenAsItWas();
        asItIsThen();
        laterRulesDoNotTurnTheTune();
        cadence();
        motion();
        leapIsDue();
        many();
        rowFindings();
        spoil();
        check();
        traceStays();
        askedOfTwoBehindAskingOne();
        keptByWriting();
        due.end();
    }

    /** A GIVEN VOICE 0, VOICE 1 of RESTS with as many NOTES, an empty SCHOOL at 0. */
    private static TuneSchool given(String text) {
        TuneSchool x = new TuneSchool();
        Tunes.voice(x, 0, text);
        x.voice(1, x.size(0, 0));
        x.school(0, 0, 0);
        return x;
    }

    private static void ordinary() {
        TuneSchool x = given("60:1 62:3");
        due.is(0, x.set(1, 0, 0, true, 60, 64, 30));
        due.is(1, Tunes.same("61:1 62:3", Tunes.told(x, 1)));
        due.is(0, x.least());
        due.is(15, x.many());
        due.is(2, x.count(5));
        due.is(1, x.check());
        due.is(Tunes.STATE, x.goOn(0));
        due.is(Tunes.STATE, x.goOn(30));
        due.is(0, x.set(1, 1, 0, true, 62, 62, 2));
        due.is(1, Tunes.same("62:1 62:3", Tunes.told(x, 1)));
        due.is(1 + 1 + 1, x.least());
        due.is(1, x.many());
    }

    private static void leasts() {
        TuneSchool x = given("60:1 62:1");
        x.set(1, 0, 0, true, 60, 64, 30);
        int[] second = {1, 0, 0, 0, 1};
        int[][] first = {{1, FAR, 1}, {0, FAR, 0}, {0, 1, 0}, {0, 0, 1}, {1, 1, 3}};
        for (int p = 60; p <= 64; p++) {
            for (int d = 0; d < 3; d++) {
                due.is(second[p - 60], x.row(1, p, d));
                due.is(first[p - 60][d], x.row(0, p, d));
            }
        }
        x.weight(0, 2);
        x.weight(1, 5);
        x.weight(2, 3);
        x.set(1, 0, 0, true, 62, 70, 30);
        due.is(3, x.row(1, 62, 0));
        due.is(0, x.row(0, 69, 1));
        due.is(3, x.row(0, 70, 0));
        due.is(0, x.row(0, 69, 0));
        due.is(3 + 3 + 5, x.row(0, 70, 2));
        x.set(1, 0, 0, false, 55, 62, 30);
        due.is(0, x.row(0, 60, 0));
        due.is(3, x.row(0, 62, 0));
        due.is(0, x.least());
    }

    private static void stepByStep() {
        TuneSchool x = given("60:1 62:1");
        due.is(2, x.set(1, 0, 0, true, 60, 64, 0));
        due.is(0, x.count(5));
        due.is(NONE, x.row(1, 60, 0));
        due.is(2, x.goOn(0));
        due.is(1, x.goOn(1));
        due.is(1, x.count(5));
        due.is(1, x.row(1, 60, 0));
        due.is(NONE, x.row(0, 60, 0));
        due.is(NONE, x.least());
        due.is(NONE, x.many());
        due.is(NONE, x.check());
        due.is(NONE, x.spoil(1, 60, 0, 5));
        due.is(1, Tunes.same("R:1 R:1", Tunes.told(x, 1)));
        due.is(0, x.goOn(1));
        due.is(1, Tunes.same("61:1 62:1", Tunes.told(x, 1)));
        due.is(BAD, x.goOn(-1));
        due.is(BAD, x.goOn(31));
        due.is(1, x.set(1, 0, 0, true, 60, 64, 1));
        due.is(1, x.set(1, 0, 0, true, 60, 64, 1));
        due.is(1, x.count(5));
        due.is(0, x.goOn(30));
    }

    private static void aloneAndBelow() {
        TuneSchool x = given("60:1");
        due.is(0, x.set(1, 0, 0, false, 55, 64, 1));
        due.is(6, x.many());
        due.is(56, x.number(1, 0, 0));
        due.is(0, x.set(1, 0, 0, true, 55, 64, 1));
        due.is(5, x.many());
        due.is(60, x.number(1, 0, 0));
        due.is(0, x.set(1, 0, 0, true, 60, 60, 1));
        due.is(1, x.least());
        x.weight(2, 9);
        due.is(0, x.set(1, 0, 0, false, 60, 75, 1));
        due.is(9, x.least());
    }

    private static void badNumbers() {
        TuneSchool x = given("60:1");
        due.is(1, x.set(1, 0, 0, true, 50, 60, 0));
        due.is(BAD, x.set(6, 0, 0, true, 50, 60, 0));
        due.is(BAD, x.set(-1, 0, 0, true, 50, 60, 0));
        due.is(BAD, x.set(1, 6, 0, true, 50, 60, 0));
        due.is(BAD, x.set(1, -1, 0, true, 50, 60, 0));
        due.is(BAD, x.set(1, 0, 16, true, 50, 60, 0));
        due.is(BAD, x.set(1, 0, -1, true, 50, 60, 0));
        due.is(BAD, x.set(1, 0, 0, true, 0, 10, 0));
        due.is(BAD, x.set(1, 0, 0, true, 110, 121, 0));
        due.is(BAD, x.set(1, 0, 0, true, 61, 60, 0));
        due.is(BAD, x.set(1, 0, 0, true, 60, 76, 0));
        due.is(BAD, x.set(1, 0, 0, true, Integer.MIN_VALUE, Integer.MAX_VALUE, 0));
        due.is(BAD, x.set(1, 0, 0, true, 50, 60, -1));
        due.is(BAD, x.set(1, 5, 0, true, 50, 60, 31));
        due.is(0, x.goOn(1));
        due.is(60, x.number(1, 0, 0));
        due.is(0, x.set(1, 0, 0, true, 105, 120, 30));
        due.is(0, x.set(1, 0, 0, false, 1, 16, 30));
    }

    private static void givenFindings() {
        TuneSchool x = given("60:1");
        due.is(1, x.set(1, 0, 0, true, 60, 60, 0));
        due.is(Tunes.NOTHING, x.set(1, 3, 0, true, 50, 52, 0));
        x.voice(3, 2);
        x.cut(3, 1, 1);
        due.is(Tunes.BEYOND, x.set(1, 3, 0, true, 50, 52, 0));
        due.is(BAD, x.row(0, 50, 0));
        due.is(0, x.goOn(1));
    }

    private static void voiceMissingOrShort() {
        TuneSchool x = given("60:1 62:1");
        x.drop(1);
        due.is(Tunes.NOTHING, x.set(1, 0, 0, true, 60, 64, 30));
        due.is(2, x.count(5));
        due.is(0, x.least());
        due.is(15, x.many());
        due.is(Tunes.NOTHING, x.goOn(0));
        x.voice(1, 1);
        due.is(Tunes.BEYOND, x.goOn(3));
        x.voice(1, 3);
        x.cut(1, 1, 1);
        due.is(Tunes.BEYOND, x.goOn(0));
        due.is(1, x.undo());
        x.cut(1, 0, 1);
        due.is(Tunes.BEYOND, x.goOn(0));
        x.voice(1, 3);
        x.note(1, 2, 99, 8);
        x.clear(0);
        due.is(0, x.goOn(0));
        due.is(1, Tunes.same("61:1 62:1 99:8", Tunes.told(x, 1)));
        due.is(Tunes.STATE, x.goOn(0));
    }

    private static void noTune() {
        TuneSchool x = given("60:1 62:1");
        x.drop(1);
        due.is(NONE, x.set(1, 0, 0, true, 50, 61, 30));
        due.is(0, x.status());
        due.is(NONE, x.least());
        due.is(0, x.many());
        due.is(2, x.count(5));
        due.is(FAR, x.row(0, 55, 0));
        due.is(1, x.row(1, 61, 0));
        due.is(1, x.check());
        due.is(Tunes.STATE, x.goOn(0));
        due.is(2, x.set(1, 0, 0, true, 50, 61, 0));
        due.is(1, x.goOn(1));
        due.is(NONE, x.goOn(1));
        due.is(Tunes.STATE, x.goOn(1));
        x.key(0);
        due.is(NONE, x.set(1, 0, 0, true, 60, 70, 30));
    }

    private static void nothingAtThePlace() {
        TuneSchool x = given("60:1 62:1");
        x.clear(0);
        due.is(Tunes.NOTHING, x.set(1, 0, 0, true, 60, 64, 30));
        due.is(0, x.count(5));
        due.is(2, x.goOn(0));
        due.is(Tunes.NOTHING, x.goOn(1));
        x.rule(0, 2);
        due.is(1, x.goOn(1));
        x.clear(0);
        due.is(Tunes.NOTHING, x.goOn(30));
        due.is(1, x.status());
        due.is(1, x.count(5));
        due.is(1, x.goOn(0));
        x.school(0, 2, 3);
        due.is(0, x.goOn(5));
        x.clear(0);
        due.is(Tunes.NOTHING, x.check());
        due.is(Tunes.NOTHING, x.set(1, 0, 9, true, 60, 64, 1));
        due.is(NONE, x.check());
    }

    private static void notHeard() {
        TuneSchool x = given("R:2 60:1 61:0 70:2 R:1 64:1");
        x.weight(0, 3);
        due.is(6, x.set(1, 0, 0, true, 58, 73, 0));
        due.is(5, x.goOn(1));
        due.is(0, x.row(5, 66, 0));
        due.is(1, x.row(5, 73, 2));
        due.is(4, x.goOn(1));
        due.is(NONE, x.row(4, 66, 0));
        due.is(0, x.goOn(4));
        due.is(NONE, x.row(0, 66, 0));
        due.is(NONE, x.row(2, 66, 0));
        due.is(1, Tunes.same("R:2 68:1 R:0 70:2 R:1 64:1", Tunes.told(x, 1)));
        due.is(3 * 4, x.row(1, 64, 0));
        due.is(0, x.row(3, 60, 1));
        due.is(14 * 4 * 10, x.many());
    }

    private static void withoutNotes() {
        TuneSchool x = given("");
        due.is(0, x.set(1, 0, 9, true, 60, 60, 0));
        due.is(0, x.least());
        due.is(1, x.many());
        due.is(0, x.count(5));
        due.is(Tunes.STATE, x.goOn(0));
        due.is(Tunes.NOTHING, x.check());
        x.drop(1);
        due.is(Tunes.NOTHING, x.set(1, 0, 0, true, 60, 60, 30));
        due.is(0, x.least());
        due.is(1, x.check());
        x.voice(1, 0);
        due.is(0, x.goOn(0));
    }

    private static void noneHeard() {
        TuneSchool x = given("R:2 61:0");
        x.note(1, 0, 50, 5);
        x.key(0);
        due.is(0, x.set(1, 0, 0, true, 60, 60, 2));
        due.is(1, Tunes.same("R:2 R:0", Tunes.told(x, 1)));
        due.is(0, x.least());
        due.is(1, x.many());
        due.is(1, x.check());
    }

    private static void givenAsItWas() {
        TuneSchool x = given("60:1 62:1");
        x.set(1, 0, 0, true, 60, 64, 0);
        Tunes.voice(x, 0, "90:8");
        due.is(0, x.goOn(30));
        due.is(1, Tunes.same("61:1 62:1", Tunes.told(x, 1)));
        Tunes.voice(x, 0, "60:1 62:1");
        x.cut(0, 0, 1);
        due.is(0, x.set(0, 0, 0, true, 65, 70, 30));
        due.is(66, x.number(0, 0, 0));
    }

    private static void asItIsThen() {
        TuneSchool x = given("60:1 62:1");
        due.is(1, x.set(1, 0, 0, true, 60, 64, 1));
        x.weight(2, 9);
        x.key(1 << 4);
        due.is(0, x.goOn(1));
        due.is(1, x.row(1, 60, 0));
        due.is(9 + 1 + 1, x.row(0, 64, 0));
        due.is(9 + 1 + 1, x.least());
        due.is(1, x.many());
        due.is(1, Tunes.same("64:1 64:1", Tunes.told(x, 1)));
        due.is(0, x.check());
        x.weight(2, 1);
        x.key(4095);
        due.is(0, x.check());
    }

    private static void laterRulesDoNotTurnTheTune() {
        TuneSchool x = given("60:1 60:1 60:1");
        Tunes.rule(x, 0, 2, 2, 7);
        x.key(1 << 0 | 1 << 7 | 1 << 5);
        x.weight(0, 0);
        x.weight(1, 9);
        x.drop(1);
        due.is(Tunes.NOTHING, x.set(1, 0, 0, true, 58, 70, 30));
        int least = x.least();
        x.rule(0, 2);
        x.key(4095);
        x.weight(1, 0);
        x.spoil(0, 60, 0, FAR);
        x.spoil(0, 65, 0, 0);
        x.voice(1, 3);
        due.is(least, x.least());
        due.is(0, x.goOn(0));
        due.is(1, Tunes.same("60:1 65:1 60:1", Tunes.told(x, 1)));
        Tunes.rule(x, 0, 2, 2, 7);
        Tunes.voice(x, 0, "60:1 67:1 60:1");
        x.key(1 << 0 | 1 << 7 | 1 << 5);
        x.drop(1);
        due.is(Tunes.NOTHING, x.set(1, 0, 0, true, 58, 70, 30));
        x.rule(0, 2);
        x.voice(1, 3);
        due.is(0, x.goOn(0));
        due.is(1, Tunes.same("60:1 67:1 65:1", Tunes.told(x, 1)));
    }

    private static void cadence() {
        TuneSchool x = given("60:1 62:2 R:1");
        x.rule(0, 3);
        Tunes.allTrue(x, 0, 0, 12);
        Tunes.allTrue(x, 0, 1, 48);
        due.is(0, x.set(1, 0, 0, true, 60, 75, 30));
        due.is(16 * 2, x.many());
        due.is(1, Tunes.same("61:1 62:2 R:1", Tunes.told(x, 1)));
        due.is(0, x.set(1, 0, 0, true, 64, 75, 30));
        due.is(1, Tunes.same("72:1 74:2 R:1", Tunes.told(x, 1)));
        due.is(12, x.many());
    }

    private static void motion() {
        TuneSchool x = given("60:1 62:2 R:1 64:2");
        x.rule(0, 1);
        Tunes.allTrue(x, 0, 0, 12);
        x.truth(0, 1, 24 + 5, true);
        due.is(0, x.set(1, 0, 0, true, 60, 70, 30));
        due.is(1, Tunes.same("66:1 67:2 R:1 64:2", Tunes.told(x, 1)));
        due.is(6 * 7, x.many());
        x.strong(1);
        x.truth(0, 0, 5, false);
        due.is(NONE, x.set(1, 0, 0, true, 60, 70, 30));
        x.strong(5);
        due.is(0, x.set(1, 0, 0, true, 60, 70, 30));
    }

    private static void leapIsDue() {
        TuneSchool x = given("60:1 67:1 60:1 60:1");
        x.school(0, 0, 2);
        Tunes.rule(x, 1, 2, 2, 7);
        x.seat(0, 1, 1);
        x.key(1 << 0 | 1 << 4 | 1 << 7);
        x.weight(1, 0);
        x.weight(0, 0);
        due.is(0, x.set(1, 0, 0, true, 59, 67, 30));
        due.is(1, Tunes.same("64:1 67:1 60:1 60:1", Tunes.told(x, 1)));
        x.set(1, 0, 0, true, 60, 67, 30);
        due.is(1 + 1, x.row(2, 60, 1));
        due.is(1 + 1, x.row(2, 67, 2));
        due.is(1 + 1 + 1, x.row(1, 67, 1));
        due.is(1, x.row(1, 67, 0));
        due.is(1, x.row(0, 64, 0));
        due.is(1 + 1 + 1 + 1, x.row(0, 60, 0));
    }

    private static void many() {
        TuneSchool x = given("60:1 60:1 60:1 60:1 60:1 60:1 60:1 60:1");
        due.is(0, x.set(1, 0, 0, true, 60, 72, 30));
        due.is(815730721, x.many());
        due.is(0, x.set(1, 0, 0, true, 60, 73, 30));
        due.is(FAR, x.many());
        x = given("60:1 60:1 60:1 60:1 60:1 60:1 60:1 60:1 60:1 60:1 60:1 60:1 "
                + "60:1 60:1 60:1 60:1 60:1 60:1 60:1 60:1 60:1 60:1 60:1 60:1");
        due.is(0, x.set(1, 0, 0, true, 60, 75, 30));
        due.is(FAR, x.many());
        due.is(24, x.count(5));
        due.is(1, x.check());
    }

    private static void rowFindings() {
        TuneSchool x = given("60:1 62:1");
        due.is(NONE, x.row(0, 999, 7));
        due.is(NONE, x.spoil(0, 999, 7, -1));
        x.set(1, 0, 0, true, 60, 64, 30);
        due.is(BAD, x.row(0, 59, 0));
        due.is(BAD, x.row(0, 65, 0));
        due.is(BAD, x.row(0, 60, 3));
        due.is(BAD, x.row(0, 60, -1));
        due.is(BAD, x.row(9, 60, -1));
        due.is(NONE, x.row(2, 60, 0));
        due.is(NONE, x.row(-1, 60, 0));
        due.is(NONE, x.row(Integer.MIN_VALUE, 60, 0));
        due.is(NONE, x.row(Integer.MAX_VALUE, 60, 0));
    }

    private static void spoil() {
        TuneSchool x = given("60:1 62:1 R:1");
        x.set(1, 0, 0, true, 60, 64, 2);
        due.is(BAD, x.spoil(1, 60, 0, -1));
        due.is(NONE, x.spoil(1, 60, 0, 7));
        x.goOn(1);
        due.is(1, x.spoil(1, 60, 0, 7));
        due.is(7, x.spoil(1, 60, 0, FAR));
        due.is(FAR, x.spoil(1, 60, 0, 1));
        due.is(BAD, x.spoil(1, 60, 0, FAR + 1));
        due.is(BAD, x.spoil(1, 60, 3, 0));
        due.is(BAD, x.spoil(1, 59, 0, 0));
        due.is(BAD, x.spoil(1, 65, 0, 0));
        due.is(NONE, x.spoil(2, 60, 0, 0));
        due.is(NONE, x.spoil(3, 60, 0, 0));
        due.is(NONE, x.spoil(-1, 60, 0, 0));
        due.is(1, x.row(1, 60, 0));
        due.is(0, x.spoil(0, 61, 0, 100));
        due.is(0, x.least());
        due.is(15, x.many());
    }

    private static void check() {
        TuneSchool x = given("60:1 62:1 R:1 64:1");
        x.set(1, 0, 0, true, 60, 68, 30);
        due.is(1, x.check());
        for (int i = 0; i < 4; i++) {
            for (int p = 60; p <= 68; p += 4) {
                for (int d = 0; d < 3 && i != 2; d++) {
                    int was = x.spoil(i, p, d, 77);
                    due.is(0, x.check());
                    due.is(77, x.spoil(i, p, d, was));
                    due.is(1, x.check());
                }
            }
        }
        checkLooksAtTheNextAndTheWeight();
        checkAsItIsNow(x);
    }

    private static void checkLooksAtTheNextAndTheWeight() {
        TuneSchool x = given("60:1");
        x.set(1, 0, 0, true, 60, 60, 30);
        x.weight(2, 4);
        due.is(0, x.check());
        due.is(1, x.spoil(0, 60, 0, 4));
        due.is(1, x.spoil(0, 60, 1, 4));
        due.is(1, x.spoil(0, 60, 2, 4));
        due.is(0, x.check());
        due.is(1, x.least());
        x = given("60:1 62:1");
        x.set(1, 0, 0, true, 62, 62, 30);
        due.is(3, x.least());
        for (int d = 0; d < 3; d++) {
            x.spoil(0, 62, d, FAR);
            x.spoil(1, 62, d, FAR - 1);
        }
        due.is(0, x.check());
    }

    private static void checkAsItIsNow(TuneSchool x) {
        x.weight(1, 2);
        due.is(0, x.check());
        x.weight(1, 1);
        due.is(1, x.check());
        x.key(4095 - (1 << 2));
        due.is(0, x.check());
        x.key(4095);
        x.rule(0, 0);
        due.is(0, x.check());
        x.clear(0);
        due.is(Tunes.NOTHING, x.check());
        due.is(1, x.status());
        x.rule(0, 2);
        due.is(1, x.check());
        due.is(0, x.status());
        x.voice(0, 0);
        due.is(1, x.check());
    }

    private static void traceStays() {
        TuneSchool x = given("60:1 62:1");
        x.rule(0, 0);
        Tunes.allTrue(x, 0, 0, 12);
        x.faults(0);
        int bodies = x.count(2);
        String trace = Tunes.traceOf(x);
        due.is(0, x.set(1, 0, 0, true, 60, 64, 30));
        due.is(1, x.check());
        due.is(bodies, x.count(2));
        due.is(1, Tunes.same(trace, Tunes.traceOf(x)));
        due.is(1, x.canon(0, 0, 0, 0, 0) == NONE && x.count(2) == 4 ? 1 : 0);
    }

    /** faults() ends with VOICE 5 and itself; what comes behind it is asked of two all the same. */
    private static void askedOfTwoBehindAskingOne() {
        TuneSchool x = given("60:1 62:1");
        Tunes.voice(x, 5, "60:8");
        Tunes.rule(x, 0, 0, 0, 0);
        x.strong(1);
        x.faults(0);
        due.is(0, x.set(1, 0, 0, true, 60, 64, 30));
        due.is(1, Tunes.same("60:1 62:1", Tunes.told(x, 1)));
        due.is(1, x.many());
        x.faults(0);
        due.is(1, x.check());
        x.faults(0);
        due.is(0, x.canon(0, 0, 0, 1, 0));
    }

    private static void keptByWriting() {
        TuneSchool x = given("60:1 62:1");
        x.drop(3);
        due.is(1, x.set(1, 0, 0, true, 60, 64, 1));
        due.is(1, x.undo());
        due.is(0, x.count(7));
        due.is(0, x.goOn(1));
        due.is(1, x.count(7));
        due.is(1, x.undo());
        due.is(1, Tunes.same("R:1 R:1", Tunes.told(x, 1)));
        due.is(Tunes.STATE, x.goOn(0));
        due.is(NONE, x.set(1, 0, 0, true, 50, 55, 30));
        due.is(0, x.count(7));
        due.is(0, x.set(0, 0, 0, true, 63, 66, 30));
        due.is(1, x.undo());
        due.is(1, Tunes.same("60:1 62:1", Tunes.told(x, 0)));
    }
}
