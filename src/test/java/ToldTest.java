/** Promises 41 to 43. */
public final class ToldTest {
    private static final Due due = new Due();
    private static final int BAD = TuneSchool.BAD, NONE = TuneSchool.NONE;

    public static void main(String[] args) {
        statusOfEachFinding();
        statusIsClearedByTheseCalls();
        statusIsLeftByTheseCalls();
        badChangesNothing();
        trace();
        count();
        due.end();
    }

    private static void statusOfEachFinding() {
        TuneSchool x = new TuneSchool();
        due.is(0, x.status());
        x.end(0);
        due.is(1, x.status());
        x.voice(0, 1);
        due.is(0, x.status());
        x.number(0, 0, 1);
        due.is(2, x.status());
        x.rule(0, 0);
        x.seated(0, 0);
        due.is(3, x.status());
        x.school(1, 2, 1);
        x.seat(1, 0, 0);
        due.is(4, x.status());
        x.voice(0, -1);
        due.is(5, x.status());
        x.note(0, 0, 120, 1);
        x.transpose(0, 1);
        due.is(6, x.status());
        x.goOn(0);
        due.is(7, x.status());
        due.is(7, x.count(1));
    }

    /** Meets STATE: a SETTING that was never begun. */
    private static void find(TuneSchool x) {
        due.is(Tunes.STATE, x.goOn(0));
        due.is(7, x.status());
    }

    private static void statusIsClearedByTheseCalls() {
        for (int call = 0; call < 31; call++) {
            TuneSchool x = new TuneSchool();
            Tunes.voice(x, 0, "60:1");
            x.school(0, 0, 1);
            x.rule(1, 0);
            Tunes.line(x, "x");
            find(x);
            clearing(x, call);
            due.is(0, x.status());
            due.is(1, x.count(1));
        }
    }

    private static int clearing(TuneSchool x, int call) {
        switch (call) {
            case 0: return x.voice(0, 1);
            case 1: return x.drop(1);
            case 2: return x.note(0, 0, 1, 1);
            case 3: return x.cut(0, 0, 0);
            case 4: return x.size(0, 0);
            case 5: return x.number(0, 0, 0);
            case 6: return x.end(0);
            case 7: return x.sounds(0, 0);
            case 8: return x.transpose(0, 0);
            case 9: return x.copy(0, 0, 0, 0, 0);
            case 10: return x.undo();
            case 11: return x.rule(0, 0);
            case 12: return x.school(0, 0, 0);
            case 13: return x.clear(0);
            case 14: return x.truth(1, 0, 0, true);
            case 15: return x.is(0, 0);
            case 16: return x.seat(0, 0, 1);
            case 17: return x.seated(0, 0);
            case 18: return x.strong(4);
            case 19: return x.key(0);
            case 20: return x.weight(0, 0);
            case 21: return x.faults(0);
            case 22: return x.mend(0);
            case 23: return x.canon(0, 0, 0, 0, 0);
            case 24: return x.canons(0, 0, 0, 0);
            case 25: return x.follows(0, 0, 0, 0, 0);
            case 26: return x.set(0, 0, 0, true, 60, 60, 0);
            case 27: return x.check();
            case 28: return x.print(0);
            case 29: return x.read(0);
            default: return x.set(0, 0, 0, true, 60, 60, 30);
        }
    }

    private static void statusIsLeftByTheseCalls() {
        TuneSchool x = new TuneSchool();
        Tunes.voice(x, 0, "60:1");
        x.school(0, 0, 1);
        x.set(0, 0, 0, true, 60, 60, 30);
        find(x);
        x.fault(0, 0);
        due.is(1, x.least());
        due.is(1, x.many());
        due.is(1, x.row(0, 60, 0));
        due.is(1, x.spoil(0, 60, 0, 2));
        due.is(1, x.put(0, 'a'));
        due.is(4, x.cutLine(0));
        due.is(NONE, x.character(0));
        x.trace(0);
        x.count(1);
        due.is(7, x.status());
        due.is(7, x.status());
        due.is(1, x.count(1));
    }

    private static void badChangesNothing() {
        TuneSchool x = new TuneSchool();
        Tunes.voice(x, 0, "60:1");
        Tunes.voice(x, 1, "61:1");
        x.rule(0, 0);
        due.is(1, x.faults(0));
        x.copy(0, 0, 1, 0, 0);
        find(x);
        int[] bad = {x.voice(9, 1), x.drop(9), x.note(9, 0, 1, 1), x.cut(9, 0, 0), x.size(9, 0), x.number(9, 0, 0),
            x.end(9), x.sounds(9, 0), x.transpose(9, 0), x.copy(9, 0, 0, 0, 0), x.rule(99, 0), x.school(99, 0, 0),
            x.clear(99), x.truth(99, 0, 0, true), x.is(99, 0), x.seat(99, 0, 0), x.seated(99, 0), x.strong(99),
            x.key(-1), x.weight(9, 0), x.faults(99), x.fault(0, 9), x.canon(9, 0, 0, 0, 0), x.canons(9, 0, 0, 0),
            x.follows(9, 0, 0, 0, 0), x.set(9, 0, 0, true, 1, 1, 0), x.goOn(99), x.print(9), x.read(9),
            x.put(99, 0), x.cutLine(999), x.count(99)};
        for (int answer : bad) {
            due.is(BAD, answer);
        }
        due.is(7, x.status());
        due.is(1, x.count(0));
        due.is(1, x.count(1));
        due.is(4, x.count(2));
        due.is(2, x.count(3));
        due.is(1, x.count(4));
        due.is(2, x.count(6));
        due.is(1, x.count(7));
    }

    private static void trace() {
        TuneSchool x = new TuneSchool();
        due.is(NONE, x.trace(0));
        Tunes.voice(x, 0, "60:8 60:8 60:8 60:8 60:8 60:8 60:8 60:8");
        x.rule(0, 2);
        x.rule(1, 0);
        due.is(0, x.faults(0));
        due.is(128, x.count(2));
        due.is(11, x.trace(0));
        due.is(4, x.trace(59));
        due.is(NONE, x.trace(60));
        due.is(NONE, x.trace(-1));
        due.is(NONE, x.trace(Integer.MAX_VALUE));
        for (int call = 0; call < 4; call++) {
            x.faults(1);
            due.is(64, x.count(2));
            due.is(10, x.trace(59));
            int bodies = call == 0 ? x.faults(9) : call == 1 ? x.mend(0) : call == 2 ? x.canon(5, 0, 0, 0, 0)
                    : x.canons(0, 9, 0, 0);
            due.is(call == 1 ? NONE : Tunes.NOTHING, bodies);
            due.is(0, x.count(2));
            due.is(NONE, x.trace(0));
        }
        x.faults(1);
        x.end(0);
        x.fault(0, 0);
        x.follows(0, 0, 0, 0, 0);
        due.is(64, x.count(2));
    }

    private static void count() {
        TuneSchool x = new TuneSchool();
        for (int what = 0; what < 8; what++) {
            due.is(0, x.count(what));
        }
        due.is(BAD, x.count(8));
        due.is(BAD, x.count(-1));
        for (int v = 0; v < 6; v++) {
            x.voice(v, 1);
            due.is(v + 1, x.count(3));
        }
        for (int r = 0; r < 16; r++) {
            due.is(1, r % 2 == 0 ? x.rule(r, 2) : x.school(r, 0, 0));
            due.is(r + 1, x.count(4));
        }
        x.rule(3, 1);
        due.is(16, x.count(4));
        x.clear(3);
        due.is(15, x.count(4));
        x.drop(0);
        due.is(5, x.count(3));
        due.is(1, x.count(7));
        x.undo();
        due.is(6, x.count(3));
        due.is(0, x.count(7));
        due.is(1, x.set(0, 1, 0, true, 1, 1, 0));
        due.is(0, x.count(5));
        due.is(0, x.goOn(1));
        due.is(1, x.count(5));
        x.faults(9);
        due.is(0, x.count(1));
        x.clear(9);
        x.faults(9);
        due.is(1, x.count(1));
    }
}
