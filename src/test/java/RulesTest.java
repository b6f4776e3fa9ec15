/** Promises 13 to 22. */
public final class RulesTest {
    private static final Due due = new Due();
    private static final int BAD = TuneSchool.BAD, NONE = TuneSchool.NONE;

    public static void main(String[] args) {
        rule();
        school();
        clear();
        truth();
        is();
        seat();
        seatSharesItsRule();
        seated();
        strong();
        key();
        weight();
        due.end();
    }

    private static void rule() {
        TuneSchool x = new TuneSchool();
        for (int kind = 0; kind < 4; kind++) {
            due.is(1, x.rule(15, kind));
            x.school(0, 0, 1);
            x.seat(0, 0, 15);
            due.is(kind, x.seated(0, 0));
        }
        due.is(BAD, x.rule(16, 0));
        due.is(BAD, x.rule(-1, 0));
        due.is(BAD, x.rule(0, 4));
        due.is(BAD, x.rule(0, -1));
        x.rule(1, 0);
        x.truth(1, 0, 5, true);
        due.is(1, x.rule(1, 0));
        due.is(0, x.truth(1, 0, 5, true));
    }

    private static void school() {
        TuneSchool x = new TuneSchool();
        due.is(1, x.school(0, 2, 8));
        due.is(NONE, x.seated(0, 7));
        due.is(Tunes.BEYOND, x.seated(0, 8));
        due.is(1, x.school(0, 0, 0));
        due.is(Tunes.BEYOND, x.seated(0, 0));
        due.is(Tunes.SIZE, x.school(0, 1, -1));
        due.is(Tunes.SIZE, x.school(3, 1, Integer.MIN_VALUE));
        due.is(0, x.is(3, 4));
        due.is(BAD, x.school(16, 0, 1));
        due.is(BAD, x.school(-1, 0, 1));
        due.is(BAD, x.school(0, 3, 1));
        due.is(BAD, x.school(0, -1, -1));
        due.is(BAD, x.school(0, 0, 9));
    }

    private static void clear() {
        TuneSchool x = new TuneSchool();
        due.is(0, x.clear(7));
        x.rule(7, 2);
        due.is(1, x.clear(7));
        due.is(0, x.is(7, 2));
        x.school(7, 0, 0);
        due.is(1, x.clear(7));
        due.is(0, x.clear(7));
        due.is(BAD, x.clear(16));
        due.is(BAD, x.clear(-1));
    }

    private static void truth() {
        TuneSchool x = new TuneSchool();
        int[] sizes = {12, 48, 25};
        x.rule(0, 3);
        x.rule(1, 2);
        for (int as = 0; as < 3; as++) {
            int r = as == 2 ? 1 : 0;
            for (int i = 0; i < sizes[as]; i++) {
                due.is(0, x.truth(r, as, i, true));
                due.is(1, x.truth(r, as, i, true));
                due.is(1, x.truth(r, as, i, false));
                due.is(0, x.truth(r, as, i, i % 2 == 0));
            }
            for (int i = 0; i < sizes[as]; i++) {
                due.is(i % 2 == 0 ? 1 : 0, x.truth(r, as, i, false));
            }
            due.is(Tunes.BEYOND, x.truth(r, as, sizes[as], true));
            due.is(Tunes.BEYOND, x.truth(r, as, -1, true));
        }
        due.is(BAD, x.truth(16, 0, 0, true));
        due.is(BAD, x.truth(-1, 0, 0, true));
        due.is(BAD, x.truth(0, 3, 0, true));
        due.is(BAD, x.truth(0, -1, 0, true));
        due.is(Tunes.CAST, x.truth(0, 2, 0, true));
        due.is(Tunes.CAST, x.truth(1, 0, 99, true));
        due.is(Tunes.CAST, x.truth(1, 1, 0, true));
        x.rule(2, 0);
        due.is(Tunes.CAST, x.truth(2, 1, 0, true));
        due.is(0, x.truth(2, 0, 11, true));
        x.rule(3, 1);
        due.is(0, x.truth(3, 1, 47, true));
        due.is(0, x.truth(3, 0, 11, true));
        x.school(4, 0, 2);
        due.is(Tunes.CAST, x.truth(4, 0, 0, true));
        due.is(Tunes.CAST, x.truth(4, 2, 0, true));
        due.is(Tunes.NOTHING, x.truth(5, 0, 99, true));
        due.is(Tunes.NOTHING, x.truth(5, 2, 0, true));
    }

    private static void is() {
        int[][] want = {{1, 0, 0, 0, 0}, {1, 1, 0, 0, 0}, {0, 0, 1, 0, 0}, {1, 1, 0, 1, 0}, {0, 0, 0, 0, 1}};
        TuneSchool x = new TuneSchool();
        for (int kind = 0; kind < 5; kind++) {
            if (kind < 4) {
                x.rule(0, kind);
            } else {
                x.school(0, 0, 1);
            }
            for (int as = 0; as < 5; as++) {
                due.is(want[kind][as], x.is(0, as));
            }
        }
        due.is(BAD, x.is(0, 5));
        due.is(BAD, x.is(0, -1));
        due.is(BAD, x.is(16, 0));
        due.is(BAD, x.is(-1, 0));
    }

    private static void seat() {
        TuneSchool x = new TuneSchool();
        for (int kind = 0; kind < 4; kind++) {
            x.rule(kind, kind);
        }
        int[][] fits = {{1, 1, 1, 1}, {1, 1, Tunes.STORE, 1}, {Tunes.STORE, Tunes.STORE, 1, Tunes.STORE}};
        for (int type = 0; type < 3; type++) {
            x.school(4, type, 1);
            for (int kind = 0; kind < 4; kind++) {
                due.is(fits[type][kind], x.seat(4, 0, kind));
            }
            due.is(type == 2 ? 2 : 3, x.seated(4, 0));
            due.is(1, x.seat(4, 0, 9));
            due.is(NONE, x.seated(4, 0));
        }
        due.is(BAD, x.seat(16, 0, 0));
        due.is(BAD, x.seat(4, 0, 16));
        due.is(BAD, x.seat(-1, 0, 0));
        due.is(BAD, x.seat(4, 9, -1));
        due.is(Tunes.CAST, x.seat(0, 0, 0));
        due.is(Tunes.CAST, x.seat(0, 0, 9));
        due.is(Tunes.CAST, x.seat(4, 9, 4));
        due.is(Tunes.CAST, x.seat(9, 0, 4));
        due.is(Tunes.NOTHING, x.seat(9, 0, 0));
        due.is(Tunes.NOTHING, x.seat(9, 0, 10));
        due.is(Tunes.BEYOND, x.seat(4, 1, 0));
        due.is(Tunes.BEYOND, x.seat(4, -1, 0));
        due.is(Tunes.BEYOND, x.seat(4, 1, 9));
    }

    private static void seatSharesItsRule() {
        TuneSchool x = new TuneSchool();
        Tunes.voice(x, 0, "60:1");
        Tunes.voice(x, 1, "67:1");
        x.rule(0, 0);
        x.school(1, 1, 2);
        x.seat(1, 1, 0);
        due.is(1, x.faults(1));
        x.truth(0, 0, 7, true);
        due.is(0, x.faults(1));
        x.truth(0, 0, 7, false);
        x.clear(0);
        due.is(1, x.faults(1));
        x.rule(0, 0);
        x.truth(0, 0, 7, true);
        due.is(1, x.faults(1));
        due.is(0, x.seated(1, 1));
        due.is(Tunes.STORE, typeRefuses(x));
        due.is(0, x.seated(1, 1));
    }

    private static int typeRefuses(TuneSchool x) {
        x.rule(2, 2);
        return x.seat(1, 1, 2);
    }

    private static void seated() {
        TuneSchool x = new TuneSchool();
        due.is(Tunes.NOTHING, x.seated(0, 0));
        x.rule(0, 1);
        due.is(Tunes.CAST, x.seated(0, 99));
        x.school(1, 0, 3);
        x.seat(1, 2, 0);
        due.is(1, x.seated(1, 2));
        due.is(NONE, x.seated(1, 0));
        due.is(0, x.status());
        due.is(Tunes.BEYOND, x.seated(1, 3));
        due.is(Tunes.BEYOND, x.seated(1, -1));
        due.is(BAD, x.seated(16, 0));
        due.is(BAD, x.seated(-1, 0));
    }

    private static void strong() {
        TuneSchool x = new TuneSchool();
        due.is(4, x.strong(1));
        due.is(1, x.strong(16));
        due.is(BAD, x.strong(0));
        due.is(BAD, x.strong(17));
        due.is(BAD, x.strong(-4));
        due.is(16, x.strong(3));
        Tunes.voice(x, 0, "60:8 60:2");
        Tunes.voice(x, 1, "61:8 61:2");
        x.rule(0, 0);
        due.is(4, x.faults(0));
        due.is(0, x.fault(0, 1));
        due.is(3, x.fault(1, 1));
        due.is(9, x.fault(3, 1));
    }

    private static void key() {
        TuneSchool x = new TuneSchool();
        due.is(4095, x.key(0));
        due.is(0, x.key(4095));
        due.is(BAD, x.key(4096));
        due.is(BAD, x.key(-1));
        due.is(4095, x.key(1 << 2));
        due.is(4, x.key(4));
        Tunes.voice(x, 0, "60:1");
        x.voice(1, 1);
        x.school(0, 0, 0);
        due.is(0, x.set(1, 0, 0, true, 60, 75, 30));
        due.is(62, x.number(1, 0, 0));
        due.is(2, x.many());
    }

    private static void weight() {
        TuneSchool x = new TuneSchool();
        for (int k = 0; k < 3; k++) {
            due.is(1, x.weight(k, 9));
            due.is(9, x.weight(k, 0));
            due.is(0, x.weight(k, k + 2));
            due.is(k + 2, x.weight(k, k + 2));
            due.is(BAD, x.weight(k, 10));
            due.is(BAD, x.weight(k, -1));
        }
        due.is(BAD, x.weight(3, 0));
        due.is(BAD, x.weight(-1, 0));
    }
}
