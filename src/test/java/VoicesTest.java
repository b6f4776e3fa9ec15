/** Promises 1 to 12. */
public final class VoicesTest {
    private static final Due due = new Due();
    private static final int BAD = TuneSchool.BAD, NONE = TuneSchool.NONE;
    private static final int MAX = Integer.MAX_VALUE, MIN = Integer.MIN_VALUE;

    public static void main(String[] args) {
        aNewObject();
        voice();
        drop();
        note();
        cut();
        sizeAndNumber();
        end();
        sounds();
        transpose();
        copy();
        copyBeyond();
        undo();
        undoOfEachAct();
        due.end();
    }

    private static void aNewObject() {
        TuneSchool x = new TuneSchool();
        for (int v = 0; v < 6; v++) {
            due.is(Tunes.NOTHING, x.size(v, 0));
        }
        for (int r = 0; r < 16; r++) {
            for (int as = 0; as < 5; as++) {
                due.is(0, x.is(r, as));
            }
        }
        due.is(NONE, x.character(0));
        due.is(0, x.cutLine(0));
        due.is(NONE, x.least());
        due.is(NONE, x.many());
        due.is(NONE, x.check());
        due.is(NONE, x.row(0, 1, 0));
        due.is(Tunes.STATE, x.goOn(0));
        due.is(Tunes.STATE, x.undo());
        due.is(NONE, x.fault(0, 0));
        due.is(NONE, x.trace(0));
        due.is(4, x.strong(4));
        due.is(4095, x.key(4095));
        due.is(1, x.weight(0, 1));
        due.is(1, x.weight(1, 1));
        due.is(1, x.weight(2, 1));
    }

    private static void voice() {
        TuneSchool x = new TuneSchool();
        due.is(1, x.voice(0, 24));
        due.is(24, x.size(0, 0));
        due.is(24, x.size(0, 1));
        due.is(0, x.number(0, 0, 23));
        due.is(1, x.number(0, 1, 23));
        due.is(1, x.note(0, 0, 60, 8));
        due.is(1, x.voice(0, 2));
        due.is(0, x.number(0, 0, 0));
        due.is(1, x.number(0, 1, 0));
        due.is(1, x.voice(5, 0));
        due.is(0, x.size(5, 0));
        due.is(BAD, x.voice(6, 1));
        due.is(BAD, x.voice(-1, 1));
        due.is(BAD, x.voice(0, 25));
        due.is(BAD, x.voice(0, MAX));
        due.is(BAD, x.voice(6, -1));
        due.is(Tunes.SIZE, x.voice(0, -1));
        due.is(Tunes.SIZE, x.voice(0, MIN));
        due.is(2, x.size(0, 0));
        due.is(Tunes.SIZE, x.voice(4, -1));
        due.is(Tunes.NOTHING, x.size(4, 0));
    }

    private static void drop() {
        TuneSchool x = new TuneSchool();
        due.is(0, x.drop(3));
        x.voice(3, 0);
        due.is(1, x.drop(3));
        due.is(Tunes.NOTHING, x.size(3, 0));
        due.is(0, x.drop(3));
        due.is(BAD, x.drop(6));
        due.is(BAD, x.drop(-1));
    }

    private static void note() {
        TuneSchool x = new TuneSchool();
        due.is(Tunes.NOTHING, x.note(1, 0, 60, 1));
        x.voice(1, 3);
        due.is(1, x.note(1, 2, 120, 8));
        due.is(120, x.number(1, 0, 2));
        due.is(8, x.number(1, 1, 2));
        due.is(1, x.note(1, 0, 0, 0));
        due.is(0, x.number(1, 1, 0));
        due.is(Tunes.BEYOND, x.note(1, 3, 60, 1));
        due.is(Tunes.BEYOND, x.note(1, -1, 60, 1));
        due.is(Tunes.BEYOND, x.note(1, MAX, 60, 1));
        due.is(BAD, x.note(6, 0, 60, 1));
        due.is(BAD, x.note(1, 0, -1, 1));
        due.is(BAD, x.note(1, 0, 121, 1));
        due.is(BAD, x.note(1, 0, 60, -1));
        due.is(BAD, x.note(1, 9, 60, 9));
        x.cut(1, 1, 1);
        due.is(Tunes.BEYOND, x.note(1, 1, 60, 1));
        due.is(0, x.number(1, 0, 1));
        x.voice(1, 3);
        x.cut(1, 0, 1);
        due.is(Tunes.BEYOND, x.note(1, 1, 60, 5));
        due.is(1, x.number(1, 1, 1));
    }

    private static void cut() {
        TuneSchool x = new TuneSchool();
        due.is(Tunes.NOTHING, x.cut(0, 0, -1));
        x.voice(0, 5);
        x.note(0, 1, 61, 2);
        due.is(5, x.cut(0, 0, 5));
        due.is(5, x.cut(0, 0, 2));
        due.is(2, x.size(0, 0));
        due.is(5, x.size(0, 1));
        due.is(61, x.number(0, 0, 1));
        due.is(Tunes.BEYOND, x.cut(0, 0, 3));
        due.is(Tunes.BEYOND, x.cut(0, 0, 24));
        due.is(Tunes.SIZE, x.cut(0, 0, -1));
        due.is(BAD, x.cut(0, 0, 25));
        due.is(BAD, x.cut(0, 2, 1));
        due.is(BAD, x.cut(0, -1, 1));
        due.is(BAD, x.cut(6, 0, 1));
        due.is(5, x.cut(0, 1, 0));
        due.is(0, x.size(0, 1));
        due.is(2, x.size(0, 0));
    }

    private static void sizeAndNumber() {
        TuneSchool x = new TuneSchool();
        due.is(Tunes.NOTHING, x.number(0, 0, 0));
        due.is(BAD, x.size(6, 0));
        due.is(BAD, x.size(0, 2));
        due.is(BAD, x.size(0, -1));
        due.is(BAD, x.number(-1, 0, 0));
        due.is(BAD, x.number(0, 2, 0));
        Tunes.voice(x, 0, "60:3 R:4");
        due.is(2, x.size(0, 1));
        due.is(60, x.number(0, 0, 0));
        due.is(4, x.number(0, 1, 1));
        due.is(Tunes.BEYOND, x.number(0, 0, 2));
        due.is(Tunes.BEYOND, x.number(0, 1, -1));
        due.is(Tunes.BEYOND, x.number(0, 1, MIN));
        x.cut(0, 1, 1);
        due.is(0, x.number(0, 0, 1));
        due.is(Tunes.BEYOND, x.number(0, 1, 1));
    }

    private static void end() {
        TuneSchool x = new TuneSchool();
        due.is(BAD, x.end(6));
        due.is(Tunes.NOTHING, x.end(0));
        x.voice(0, 0);
        due.is(0, x.end(0));
        Tunes.voice(x, 0, "60:3 R:4 61:0 62:8");
        due.is(15, x.end(0));
        x.cut(0, 0, 2);
        due.is(7, x.end(0));
        x.cut(0, 1, 1);
        due.is(Tunes.BEYOND, x.end(0));
        Tunes.voice(x, 0, "60:8 60:8 60:8 60:8 60:8 60:8 60:8 60:8 60:8 60:8 60:8 60:8 "
                + "60:8 60:8 60:8 60:8 60:8 60:8 60:8 60:8 60:8 60:8 60:8 60:8");
        due.is(192, x.end(0));
        due.is(60, x.sounds(0, 191));
        due.is(0, x.sounds(0, 192));
    }

    private static void sounds() {
        TuneSchool x = new TuneSchool();
        due.is(Tunes.NOTHING, x.sounds(0, 0));
        due.is(BAD, x.sounds(0, -1));
        due.is(BAD, x.sounds(6, 0));
        Tunes.voice(x, 0, "60:2 61:0 R:1 62:1");
        int[] want = {60, 60, 0, 62, 0, 0};
        for (int t = 0; t < want.length; t++) {
            due.is(want[t], x.sounds(0, t));
        }
        due.is(0, x.sounds(0, MAX));
        x.cut(0, 1, 3);
        due.is(Tunes.BEYOND, x.sounds(0, 0));
        due.is(Tunes.BEYOND, x.sounds(0, 100));
    }

    private static void transpose() {
        TuneSchool x = new TuneSchool();
        due.is(Tunes.NOTHING, x.transpose(0, 60));
        Tunes.voice(x, 0, "60:2 R:1 1:0");
        due.is(2, x.transpose(0, 60));
        due.is(1, Tunes.same("120:2 R:1 61:0", Tunes.told(x, 0)));
        due.is(Tunes.RANGE, x.transpose(0, 1));
        due.is(2, x.transpose(0, -60));
        due.is(Tunes.RANGE, x.transpose(0, -1));
        due.is(1, Tunes.same("60:2 R:1 1:0", Tunes.told(x, 0)));
        due.is(2, x.transpose(0, 0));
        due.is(BAD, x.transpose(0, 61));
        due.is(BAD, x.transpose(0, -61));
        due.is(BAD, x.transpose(6, 0));
        x.cut(0, 1, 0);
        due.is(2, x.transpose(0, 1));
        x.voice(0, 4);
        due.is(0, x.transpose(0, 5));
        Tunes.voice(x, 0, "60:2 61:2");
        x.cut(0, 0, 1);
        due.is(1, x.transpose(0, 60));
    }

    private static void copy() {
        TuneSchool x = new TuneSchool();
        due.is(Tunes.NOTHING, x.copy(0, -1, 1, 0, 0));
        Tunes.voice(x, 0, "60:1 61:2 62:3 63:4");
        due.is(Tunes.NOTHING, x.copy(0, 0, 1, 0, 1));
        due.is(Tunes.NOTHING, x.copy(1, 0, 0, 0, 1));
        x.voice(1, 3);
        due.is(2, x.copy(0, 1, 1, 0, 2));
        due.is(2, x.count(6));
        due.is(1, Tunes.same("61:2 62:3 R:1", Tunes.told(x, 1)));
        due.is(3, x.copy(0, 0, 0, 1, 3));
        due.is(1, Tunes.same("60:1 60:1 61:2 62:3", Tunes.told(x, 0)));
        due.is(3, x.copy(0, 1, 0, 0, 3));
        due.is(1, Tunes.same("60:1 61:2 62:3 62:3", Tunes.told(x, 0)));
        due.is(0, x.copy(0, 4, 1, 3, 0));
        due.is(BAD, x.copy(6, 0, 1, 0, 1));
        due.is(BAD, x.copy(0, 0, -1, 0, 1));
        due.is(2, x.count(6));
    }

    private static void copyBeyond() {
        TuneSchool x = new TuneSchool();
        Tunes.voice(x, 0, "60:1 61:2 62:3 63:4");
        x.voice(1, 4);
        int[][] beyond = {{-1, 0, 1}, {0, -1, 1}, {0, 0, -1}, {3, 0, 2}, {0, 3, 2}, {5, 0, 0}, {0, 5, 0},
            {MAX, 0, MAX}, {1, 0, MAX}, {0, MAX, MAX}, {MIN, MIN, MIN}};
        for (int[] ikn : beyond) {
            x.copy(0, 0, 1, 0, 0);
            due.is(Tunes.BEYOND, x.copy(0, ikn[0], 1, ikn[1], ikn[2]));
            due.is(0, x.count(6));
        }
        due.is(1, Tunes.same("R:1 R:1 R:1 R:1", Tunes.told(x, 1)));
        x.cut(0, 1, 2);
        due.is(Tunes.BEYOND, x.copy(0, 0, 1, 1, 3));
        due.is(2, x.status());
        due.is(1, x.count(6));
        due.is(1, Tunes.same("R:1 60:1 61:1 62:1", Tunes.told(x, 1)));
        due.is(1, x.undo());
        due.is(1, Tunes.same("R:1 R:1 R:1 R:1", Tunes.told(x, 1)));
        x.voice(0, 4);
        x.cut(1, 1, 3);
        due.is(Tunes.BEYOND, x.copy(0, 0, 1, 0, 4));
        due.is(1, x.count(6));
        x.drop(0);
        due.is(Tunes.NOTHING, x.copy(0, 0, 1, 0, 4));
        due.is(0, x.count(6));
    }

    private static void undo() {
        TuneSchool x = new TuneSchool();
        Tunes.voice(x, 2, "60:1 61:2");
        x.note(2, 0, 70, 3);
        due.is(BAD, x.note(2, 0, 200, 3));
        due.is(Tunes.BEYOND, x.note(2, 9, 71, 3));
        due.is(Tunes.SIZE, x.voice(3, -1));
        due.is(Tunes.RANGE, x.transpose(2, 60));
        Tunes.line(x, "60");
        due.is(-102, x.read(4));
        due.is(1, x.count(7));
        due.is(1, x.undo());
        due.is(1, Tunes.same("60:1 61:2", Tunes.told(x, 2)));
        due.is(0, x.count(7));
        due.is(Tunes.STATE, x.undo());
        due.is(7, x.status());
        x.voice(2, 0);
        x.drop(3);
        due.is(1, x.undo());
        due.is(0, x.size(2, 0));
        due.is(Tunes.STATE, x.undo());
    }

    private static void undoOfEachAct() {
        TuneSchool x = new TuneSchool();
        String was = "60:1 61:2";
        for (int act = 0; act < 7; act++) {
            Tunes.voice(x, 0, was);
            x.voice(1, 1);
            x.drop(1);
            due.is(1, x.undo());
            Tunes.line(x, "");
            act(x, act);
            due.is(0, Tunes.told(x, 0).equals(was) ? 1 : 0);
            due.is(1, x.count(7));
            due.is(1, x.undo());
            due.is(1, Tunes.same(was, Tunes.told(x, 0)));
        }
        x.drop(0);
        x.voice(0, 3);
        due.is(1, x.undo());
        due.is(Tunes.NOTHING, x.size(0, 0));
    }

    private static void act(TuneSchool x, int which) {
        switch (which) {
            case 0 -> x.voice(0, 3);
            case 1 -> x.drop(0);
            case 2 -> x.note(0, 1, 0, 0);
            case 3 -> x.cut(0, 0, 1);
            case 4 -> x.transpose(0, 1);
            case 5 -> x.copy(0, 0, 0, 1, 1);
            default -> x.read(0);
        }
    }
}
