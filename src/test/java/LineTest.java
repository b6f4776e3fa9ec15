/** Promises 36 to 40. */
public final class LineTest {
    private static final Due due = new Due();
    private static final int BAD = TuneSchool.BAD, NONE = TuneSchool.NONE;

    public static void main(String[] args) {
        print();
        printFindings();
        printIsReadBack();
        read();
        readWrongPlaces();
        readTwentyFour();
        readChangesNothingWhenWrong();
        put();
        putFills();
        cutLine();
        character();
        due.end();
    }

    private static void print() {
        TuneSchool x = new TuneSchool();
        x.voice(0, 5);
        x.note(0, 0, 1, 0);
        x.note(0, 1, 10, 8);
        x.note(0, 3, 99, 3);
        x.note(0, 4, 120, 4);
        due.is(23, x.print(0));
        due.is(1, Tunes.same("1:0 10:8 R:1 99:3 120:4", Tunes.lineOf(x)));
    }

    private static void printFindings() {
        TuneSchool x = new TuneSchool();
        Tunes.line(x, "as it was");
        due.is(BAD, x.print(6));
        due.is(BAD, x.print(-1));
        due.is(Tunes.NOTHING, x.print(0));
        x.voice(0, 2);
        x.cut(0, 1, 1);
        due.is(Tunes.BEYOND, x.print(0));
        due.is(1, Tunes.same("as it was", Tunes.lineOf(x)));
        x.cut(0, 0, 1);
        due.is(3, x.print(0));
        due.is(1, Tunes.same("R:1", Tunes.lineOf(x)));
        x.voice(0, 0);
        due.is(0, x.print(0));
        due.is(NONE, x.character(0));
        x.voice(0, 3);
        x.cut(0, 0, 2);
        due.is(7, x.print(0));
    }

    private static void printIsReadBack() {
        TuneSchool x = new TuneSchool();
        x.voice(0, 24);
        for (int i = 0; i < 24; i++) {
            x.note(0, i, 120, 8);
        }
        due.is(143, x.print(0));
        due.is(24, x.read(1));
        for (int i = 0; i < 24; i++) {
            due.is(120, x.number(1, 0, i));
            due.is(8, x.number(1, 1, i));
        }
        for (int p = 1; p <= 120; p++) {
            Tunes.line(x = new TuneSchool(), p + ":" + p % 9);
            due.is(1, x.read(0));
            due.is(p, x.number(0, 0, 0));
            due.is(p % 9, x.number(0, 1, 0));
            x.cutLine(0);
            x.print(0);
            due.is(1, Tunes.same(p + ":" + p % 9, Tunes.lineOf(x)));
        }
    }

    private static void read() {
        TuneSchool x = new TuneSchool();
        due.is(0, x.read(5));
        due.is(0, x.size(5, 0));
        due.is(0, x.size(5, 1));
        Tunes.line(x, "R:0 007:1 120:8");
        due.is(3, x.read(5));
        due.is(1, Tunes.same("R:0 7:1 120:8", Tunes.told(x, 5)));
        due.is(BAD, x.read(6));
        due.is(BAD, x.read(-1));
    }

    private static void readWrongPlaces() {
        String[] lines = {" ", " 60:1", "60", "60:", "60:9", "60:1 ", "60:1  61:1", "60:1,61:1", "60:10",
            "r:1", "R", "R0:1", "RR:1", "0:1", "000:1", "121:1", "999:1", "1200:1", "0060:1", "60:1 121:1",
            "60:1 0", "60;1", "60 :1", ":1", "60:R", "60:1 R:8 x", "60:/", "/0:1", "6:0:1", "99999999999:1",
            "4294967356:1", "60:1 1234", "~", "60:1 60:1 R:"};
        int[] places = {0, 0, 2, 3, 3, 5, 5, 4, 4,
            0, 1, 1, 1, 0, 0, 0, 0, 0, 0, 5,
            5, 2, 2, 0, 3, 9, 3, 0, 3, 0,
            0, 5, 0, 12};
        for (int k = 0; k < lines.length; k++) {
            TuneSchool x = new TuneSchool();
            Tunes.line(x, lines[k]);
            due.is(-100 - places[k], x.read(0));
            due.is(Tunes.NOTHING, x.size(0, 0));
        }
    }

    private static void readTwentyFour() {
        StringBuilder text = new StringBuilder("R:1");
        for (int i = 1; i < 24; i++) {
            text.append(" R:1");
        }
        TuneSchool x = new TuneSchool();
        Tunes.line(x, text.toString());
        due.is(24, x.read(0));
        Tunes.line(x, text + " ");
        due.is(-100 - 95, x.read(0));
        Tunes.line(x = new TuneSchool(), text + " R:1");
        due.is(-100 - 95, x.read(0));
        Tunes.line(x = new TuneSchool(), text + "2");
        due.is(-100 - 95, x.read(0));
    }

    private static void readChangesNothingWhenWrong() {
        TuneSchool x = new TuneSchool();
        Tunes.voice(x, 0, "60:2 61:2");
        x.undo();
        Tunes.voice(x, 0, "60:2 61:2");
        x.note(0, 0, 70, 1);
        Tunes.line(x, "50:1 51:1 52:");
        x.undo();
        due.is(Tunes.STATE, x.undo());
        due.is(-113, x.read(0));
        due.is(0, x.status());
        due.is(0, x.count(7));
        due.is(60, x.number(0, 0, 0));
        due.is(2, x.size(0, 0));
        due.is(1, Tunes.same("50:1 51:1 52:", Tunes.lineOf(x)));
        x.put(13, '0');
        due.is(3, x.read(0));
        due.is(1, x.count(7));
        due.is(1, x.undo());
        due.is(61, x.number(0, 0, 1));
    }

    private static void put() {
        TuneSchool x = new TuneSchool();
        due.is(BAD, x.put(1, 'a'));
        due.is(BAD, x.put(-1, 'a'));
        due.is(1, x.put(0, 32));
        due.is(1, x.put(1, 126));
        due.is(BAD, x.put(2, 127));
        due.is(BAD, x.put(2, 31));
        due.is(BAD, x.put(0, 0));
        due.is(BAD, x.put(3, 'a'));
        due.is(1, x.put(0, 'b'));
        due.is(1, Tunes.same("b~", Tunes.lineOf(x)));
    }

    private static void putFills() {
        TuneSchool x = new TuneSchool();
        for (int i = 0; i < 160; i++) {
            due.is(1, x.put(i, 'a'));
        }
        due.is(BAD, x.put(160, 'a'));
        due.is(1, x.put(159, 'b'));
        due.is('b', x.character(159));
        due.is(NONE, x.character(160));
        due.is(-100, x.read(0));
        for (int i = 0; i < 160; i++) {
            x.put(i, '1');
        }
        due.is(-100, x.read(0));
        due.is(160, x.cutLine(160));
    }

    private static void cutLine() {
        TuneSchool x = new TuneSchool();
        Tunes.line(x, "abcd");
        due.is(BAD, x.cutLine(5));
        due.is(BAD, x.cutLine(-1));
        due.is(4, x.cutLine(4));
        due.is(4, x.cutLine(1));
        due.is(1, Tunes.same("a", Tunes.lineOf(x)));
        due.is(BAD, x.cutLine(2));
        due.is(1, x.cutLine(0));
        due.is(0, x.cutLine(0));
    }

    private static void character() {
        TuneSchool x = new TuneSchool();
        Tunes.line(x, "ab");
        due.is('a', x.character(0));
        due.is('b', x.character(1));
        due.is(NONE, x.character(2));
        due.is(NONE, x.character(-1));
        due.is(NONE, x.character(Integer.MAX_VALUE));
        x.cutLine(1);
        due.is(NONE, x.character(1));
    }
}
