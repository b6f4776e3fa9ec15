/** What the document says of answers and of VOICES, and promises 1 to 12, sentence by sentence. */
public final class VoiceSentencesTest {
    private static final String FULL = "60:8 60:8 60:8 60:8 60:8 60:8 60:8 60:8 60:8 60:8 60:8 60:8 60:8 60:8 60:8 "
            + "60:8 60:8 60:8 60:8 60:8 60:8 60:8 60:8 60:8";

    public static void main(String[] args) {
        answers();
        rows();
        goingThrough();
        ticks();
        aNewObject();
        voice();
        drop();
        note();
        cut();
        sizeAndNumber();
        endAndSounds();
        transpose();
        copy();
        copyBeyond();
        undo();
        kept();
        keptNot();
        keptByTunes();
        Script.end(1, 12);
    }

    private static void answers() {
        Script.test("Answers, the first of these that fits: BAD: a number is not as told", """
            voice 6 -1 = BAD
            note 0 0 121 0 = BAD; note 0 0 0 9 = BAD; note 6 0 0 0 = BAD
            cut 0 0 25 = BAD; cut 0 2 -1 = BAD; cut 6 0 -1 = BAD
            size 0 2 = BAD; size 6 0 = BAD; number 0 2 0 = BAD; number 6 0 0 = BAD; end 6 = BAD
            sounds 0 -1 = BAD; sounds 6 0 = BAD; transpose 0 61 = BAD; transpose 6 0 = BAD
            copy 0 -1 6 -1 -1 = BAD; copy 6 0 0 0 0 = BAD
            school 0 3 -1 = BAD; school 16 0 -1 = BAD
            truth 0 3 99 true = BAD; truth 16 0 99 true = BAD; seat 0 0 16 = BAD; seat 16 0 0 = BAD; seated 16 0 = BAD
            faults 16 = BAD; canon 0 0 61 0 0 = BAD; canons 0 0 61 0 = BAD; follows 0 0 0 61 0 = BAD
            set 0 0 0 true 1 17 0 = BAD; set 0 0 0 true 1 1 31 = BAD; goOn 31 = BAD; print 6 = BAD
            status = 0; count 1 = 0
            """);
        Script.test("-10 less a FINDING, the first that the act meets: 1 NOTHING, 2 BEYOND, 3 CAST, 4 STORE, 5 SIZE, 6 "
                + "RANGE, 7 STATE.", """
            end 0 = -11; status = 1
            voice 0 1; number 0 0 1 = -12; status = 2
            rule 0 0; seated 0 0 = -13; status = 3
            school 1 2 1; seat 1 0 0 = -14; status = 4
            voice 0 -1 = -15; status = 5
            note 0 0 120 1; transpose 0 1 = -16; status = 6
            undo; undo = -17; status = 7
            count 1 = 7
            """);
    }

    private static void rows() {
        Script.test("VOICES 0 .. 5 are MISSING at first.", """
            count 3 = 0
            size 0 0 = NOTHING; size 1 0 = NOTHING; size 2 1 = NOTHING
            size 3 1 = NOTHING; size 4 0 = NOTHING; size 5 1 = NOTHING
            size 6 0 = BAD; size -1 0 = BAD; size MAX 0 = BAD; size MIN 0 = BAD
            """);
        Script.test("A VOICE has two ROWS of 0 .. 24 numbers each, not always as many", """
            voice 0 0 = 1; size 0 0 = 0; size 0 1 = 0; number 0 0 0 = BEYOND; number 0 1 0 = BEYOND
            voice 0 24 = 1; size 0 0 = 24; size 0 1 = 24; number 0 0 23 = 0; number 0 1 23 = 1
            number 0 0 24 = BEYOND; number 0 1 24 = BEYOND
            cut 0 0 0 = 24; size 0 0 = 0; size 0 1 = 24; number 0 0 0 = BEYOND; number 0 1 23 = 1
            voice 1 24; cut 1 1 0 = 24; size 1 0 = 24; size 1 1 = 0; number 1 0 23 = 0; number 1 1 0 = BEYOND
            size 0 2 = BAD; size 0 -1 = BAD; size 0 MAX = BAD; size 0 MIN = BAD
            """);
        Script.test("0 PITCHES (half steps, 1 .. 120; 0 is a REST), 1 LENGTHS (ticks, 0 .. 8).", """
            voice 0 1
            note 0 0 1 1 = 1; sounds 0 0 = 1; number 0 0 0 = 1; number 0 1 0 = 1
            note 0 0 120 8 = 1; sounds 0 0 = 120; sounds 0 7 = 120; sounds 0 8 = 0; number 0 0 0 = 120; number 0 1 0 = 8
            note 0 0 0 8 = 1; sounds 0 0 = 0; end 0 = 8
            note 0 0 60 0 = 1; sounds 0 0 = 0; end 0 = 0
            note 0 0 121 1 = BAD; note 0 0 -1 1 = BAD; note 0 0 MAX 1 = BAD; note 0 0 MIN 1 = BAD
            note 0 0 60 9 = BAD; note 0 0 60 -1 = BAD; note 0 0 60 MAX = BAD; note 0 0 60 MIN = BAD
            told 0 60:0
            """);
        Script.test("Its NOTES are 0, 1, .., as many as its PITCHES.", """
            tune 0 60:1 61:2 62:3; cut 0 0 2
            end 0 = 3; sounds 0 2 = 61; sounds 0 3 = 0; transpose 0 1 = 2; print 0 = 9; says "61:1 62:2"
            cut 0 0 0; end 0 = 0; sounds 0 0 = 0; transpose 0 1 = 0; print 0 = 0; says ""
            voice 1 0; school 0 0 0; set 1 0 0 true 60 60 0 = 0
            """);
    }

    private static void goingThrough() {
        String throughAll = "end 0 = %1$s; sounds 0 0 = %1$s; sounds 0 MAX = %1$s; print 0 = %1$s\ncanon 0 0 0 0 0 = "
                + "%1$s; canons 0 0 0 0 = %1$s; follows 0 0 0 0 0 = %1$s\nset 1 0 0 true 60 60 0 = %1$s\n";
        Script.test("To go through a VOICE: NOTHING, if it is MISSING", "rule 0 0", throughAll.formatted("NOTHING"),
                "voice 0 1; drop 0", throughAll.formatted("NOTHING"));
        Script.test("of NOTE after NOTE, the PITCH and the LENGTH: BEYOND, if LENGTHS has no such place.",
                "rule 0 0; tune 0 60:1 61:1; cut 0 1 1", throughAll.formatted("BEYOND"), "faults 0 = BEYOND",
                "cut 0 1 0", throughAll.formatted("BEYOND"),
                "cut 0 0 0; end 0 = 0; sounds 0 0 = 0; print 0 = 0; canon 0 0 0 0 0 = NONE; follows 0 0 0 0 0 = 0",
                "voice 0 1; cut 0 1 0", throughAll.formatted("BEYOND"),
                "tune 0 60:1 61:1; cut 0 0 1; end 0 = 1; sounds 0 0 = 60; print 0 = 4; follows 0 0 0 0 0 = 60",
                "cut 0 1 1; end 0 = 1");
    }

    private static void ticks() {
        Script.test("A NOTE stands on as many TICKS as its LENGTH tells, behind those of the NOTES ahead of it; the "
                + "first one begins at TICK 0.", """
            tune 0 60:2 61:0 62:1 R:1 63:8
            sounds 0 0 = 60; sounds 0 1 = 60; sounds 0 2 = 62; sounds 0 3 = 0; sounds 0 4 = 63; sounds 0 11 = 63
            sounds 0 12 = 0
            """);
        Script.test("END is the first TICK behind all.", """
            voice 0 0; end 0 = 0
            tune 0 60:0 R:0; end 0 = 0
            tune 0 R:3; end 0 = 3
            tune 0 60:0 60:1 60:0; end 0 = 1
            """, "tune 0 " + FULL, "end 0 = 192; sounds 0 191 = 60; sounds 0 192 = 0");
        Script.test("it is SILENT where that is a REST, ahead of TICK 0, from END on, and if it is MISSING.", """
            tune 0 R:1 60:2
            sounds 0 0 = 0; sounds 0 1 = 60; sounds 0 2 = 60; sounds 0 3 = 0; sounds 0 MAX = 0
            tune 0 60:1; tune 1 67:1; rule 0 1; all 0 0; rule 1 2; all 1 2
            faults 0 = 0; traced 10 10 2 1 10
            faults 1 = 0; traced 11 4 11 11 4
            tune 0 60:1 61:1; drop 1; rule 2 0; faults 2 = 0; traced 10 10
            """);
    }

    private static void aNewObject() {
        StringBuilder places = new StringBuilder();
        for (int r = 0; r < 16; r++) {
            places.append("is ").append(r).append(" 0 = 0; seated ").append(r).append(" 0 = NOTHING\n");
        }
        Script.test("All VOICES MISSING, nothing at the PLACES, THE LINE empty, no SETTING.", """
            status = 0; count 0 = 0; count 1 = 0; count 2 = 0; count 3 = 0; count 4 = 0; count 5 = 0; count 6 = 0
            count 7 = 0; trace 0 = NONE; fault 0 0 = NONE
            character 0 = NONE; cutLine 0 = 0; least = NONE; many = NONE; row 0 1 0 = NONE; spoil 0 1 0 0 = NONE
            check = NONE; goOn 0 = STATE; undo = STATE
            drop 0 = 0; drop 1 = 0; drop 2 = 0; drop 3 = 0; drop 4 = 0; drop 5 = 0
            read 0 = 0; size 0 0 = 0
            """, places.toString());
    }

    private static void voice() {
        Script.test("A VOICE has new ROWS: n NOTES, RESTS of LENGTH 1: 1. BAD: v, n above 24; SIZE: n below 0.", """
            voice 0 2 = 1; told 0 R:1 R:1
            note 0 0 60 8; note 0 1 61 0; cut 0 0 1; voice 0 2 = 1; told 0 R:1 R:1
            voice 0 3 = 1; told 0 R:1 R:1 R:1
            voice 5 0 = 1; size 5 0 = 0; size 5 1 = 0
            voice 5 24 = 1; size 5 0 = 24; size 5 1 = 24
            voice 5 25 = BAD; voice 5 MAX = BAD; voice 6 1 = BAD; voice -1 1 = BAD; voice MAX 1 = BAD; voice MIN 1 = BAD
            voice 6 25 = BAD; voice 6 -1 = BAD; size 5 0 = 24
            voice 5 -1 = SIZE; voice 5 MIN = SIZE; size 5 0 = 24; size 5 1 = 24
            voice 4 -1 = SIZE; size 4 0 = NOTHING
            """);
    }

    private static void drop() {
        Script.test("A VOICE is MISSING: 1 if it was there, else 0. BAD.", """
            drop 0 = 0; voice 0 0; drop 0 = 1; size 0 0 = NOTHING; drop 0 = 0
            voice 5 24; drop 5 = 1; size 5 1 = NOTHING; count 3 = 0
            voice 0 1; voice 1 1; drop 0 = 1; size 1 0 = 1; count 3 = 1
            drop 6 = BAD; drop -1 = BAD; drop MAX = BAD; drop MIN = BAD; count 3 = 1
            """);
    }

    private static void note() {
        Script.test("Number i of both ROWS becomes this: 1.", """
            voice 0 24; note 0 0 120 8 = 1; note 0 23 1 0 = 1
            number 0 0 0 = 120; number 0 1 0 = 8; number 0 0 23 = 1; number 0 1 23 = 0
            number 0 0 1 = 0; number 0 1 1 = 1; number 0 0 22 = 0; number 0 1 22 = 1
            """);
        Script.test("BAD: v, pitch, length; NOTHING; BEYOND: PITCHES, then LENGTHS.", """
            note 0 0 60 1 = NOTHING; note 0 99 60 1 = NOTHING
            voice 0 0; note 0 0 60 1 = BEYOND; note 0 -1 60 1 = BEYOND
            voice 0 2; note 0 2 60 1 = BEYOND; note 0 -1 60 1 = BEYOND; note 0 MAX 60 1 = BEYOND
            note 0 MIN 60 1 = BEYOND
            note 0 99 121 1 = BAD; note 0 99 60 9 = BAD; told 0 R:1 R:1
            cut 0 1 1; note 0 1 60 5 = BEYOND; number 0 0 1 = 0; note 0 0 60 5 = 1
            voice 0 2; cut 0 0 1; note 0 1 60 5 = BEYOND; number 0 1 1 = 1; note 0 0 60 5 = 1
            note 6 0 60 1 = BAD; note -1 0 60 1 = BAD; note MAX 0 60 1 = BAD; note MIN 0 60 1 = BAD
            """);
    }

    private static void cut() {
        Script.test("A ROW of a VOICE becomes a new one of its first n numbers: how many it had.", """
            tune 0 60:1 61:2 62:3
            cut 0 0 3 = 3; told 0 60:1 61:2 62:3
            cut 0 0 2 = 3; size 0 0 = 2; size 0 1 = 3; number 0 0 0 = 60; number 0 0 1 = 61; number 0 1 2 = 3
            cut 0 1 0 = 3; size 0 1 = 0; size 0 0 = 2; cut 0 1 0 = 0
            cut 0 0 0 = 2; cut 0 0 0 = 0; size 0 0 = 0
            voice 1 24; cut 1 1 24 = 24; cut 1 1 23 = 24; size 1 1 = 23
            """);
        Script.test("BAD: v, row, n above 24; NOTHING; SIZE: n below 0; BEYOND: it has not so many.", """
            cut 0 0 25 = BAD; cut 0 0 MAX = BAD; cut 0 2 1 = BAD; cut 0 -1 1 = BAD; cut 6 0 1 = BAD; cut -1 0 1 = BAD
            cut 0 0 -1 = NOTHING; cut 0 0 24 = NOTHING; cut 0 1 0 = NOTHING
            tune 0 60:1 61:2; cut 0 0 -1 = SIZE; cut 0 0 MIN = SIZE; cut 0 1 -1 = SIZE
            cut 0 0 3 = BEYOND; cut 0 1 24 = BEYOND; cut 0 0 25 = BAD; cut 0 2 -1 = BAD
            told 0 60:1 61:2
            cut 0 0 0; cut 0 0 1 = BEYOND; cut 0 0 -1 = SIZE; cut 0 1 2 = 2
            """);
    }

    private static void sizeAndNumber() {
        Script.test("How many numbers a ROW of a VOICE has. BAD; NOTHING.", """
            size 0 0 = NOTHING; size 5 1 = NOTHING; voice 0 0; size 0 0 = 0; voice 0 24; size 0 0 = 24; size 0 1 = 24
            cut 0 1 7; size 0 0 = 24; size 0 1 = 7
            size 6 0 = BAD; size -1 0 = BAD; size 0 2 = BAD; size 0 -1 = BAD; size MAX MIN = BAD; size MIN MAX = BAD
            """);
        Script.test("Number i of a ROW of a VOICE. BAD: v, row; NOTHING; BEYOND.", """
            number 0 0 0 = NOTHING; number 0 1 -1 = NOTHING
            tune 0 60:1 61:2; number 0 0 0 = 60; number 0 0 1 = 61; number 0 1 0 = 1; number 0 1 1 = 2
            number 0 0 2 = BEYOND; number 0 0 -1 = BEYOND; number 0 1 2 = BEYOND; number 0 1 MAX = BEYOND
            number 0 1 MIN = BEYOND
            cut 0 1 1; number 0 0 1 = 61; number 0 1 1 = BEYOND
            number 6 0 0 = BAD; number -1 0 0 = BAD; number 0 2 9 = BAD; number 0 -1 9 = BAD
            """);
    }

    private static void endAndSounds() {
        Script.test("END of a VOICE, gone through. BAD; NOTHING; BEYOND.", """
            end 0 = NOTHING; end 5 = NOTHING; end 6 = BAD; end -1 = BAD; end MAX = BAD; end MIN = BAD
            tune 0 60:8 R:8 61:0; end 0 = 16; cut 0 1 2; end 0 = BEYOND; cut 0 0 2; end 0 = 16; cut 0 0 1; end 0 = 8
            """);
        Script.test("The PITCH with which a VOICE, gone through, SOUNDS at TICK t; 0: it is SILENT. BAD: v, t below 0; "
                + "NOTHING; BEYOND.", """
            sounds 0 0 = NOTHING; sounds 0 -1 = BAD; sounds 0 MIN = BAD; sounds 6 0 = BAD; sounds -1 0 = BAD
            tune 0 1:1 120:1; sounds 0 0 = 1; sounds 0 1 = 120; sounds 0 2 = 0; sounds 0 MAX = 0
            cut 0 1 1; sounds 0 0 = BEYOND; sounds 0 2 = BEYOND; sounds 0 -1 = BAD
            """);
    }

    private static void transpose() {
        Script.test("All PITCHES of a VOICE that are no RESTS go by so many half steps (-60 .. 60): how many went.", """
            tune 0 60:1 R:2 1:0; transpose 0 60 = 2; told 0 120:1 R:2 61:0
            transpose 0 -60 = 2; told 0 60:1 R:2 1:0; transpose 0 0 = 2; told 0 60:1 R:2 1:0
            tune 1 R:1 R:1; transpose 1 60 = 0; told 1 R:1 R:1; voice 2 0; transpose 2 -60 = 0
            tune 3 60:1 61:1; cut 3 1 0; transpose 3 1 = 2; number 3 0 1 = 62
            tune 4 60:1 120:1; cut 4 0 1; transpose 4 1 = 1; number 4 0 0 = 61
            """);
        Script.test("BAD; NOTHING; RANGE: one would not be 1 .. 120.", """
            transpose 0 60 = NOTHING; transpose 0 61 = BAD; transpose 0 -61 = BAD; transpose 0 MAX = BAD
            transpose 0 MIN = BAD; transpose 6 0 = BAD; transpose -1 0 = BAD
            tune 0 100:1 119:1; transpose 0 2 = RANGE; told 0 100:1 119:1; transpose 0 1 = 2; transpose 0 1 = RANGE
            told 0 101:1 120:1
            tune 0 20:1 2:1; transpose 0 -2 = RANGE; told 0 20:1 2:1; transpose 0 -1 = 2; transpose 0 -1 = RANGE
            told 0 19:1 1:1
            """);
    }

    private static void copy() {
        Script.test("n PITCHES of a VOICE from i on come to those of another one (or the same) from k on, then LENGTHS "
                + "likewise: n.", """
            tune 0 60:1 61:2 62:3 63:4; voice 1 3
            copy 0 1 1 0 2 = 2; told 1 61:2 62:3 R:1; told 0 60:1 61:2 62:3 63:4; count 6 = 2
            copy 0 3 1 2 1 = 1; told 1 61:2 62:3 63:4
            copy 0 0 0 1 3 = 3; told 0 60:1 60:1 61:2 62:3
            copy 0 1 0 0 3 = 3; told 0 60:1 61:2 62:3 62:3
            copy 0 0 0 0 4 = 4; told 0 60:1 61:2 62:3 62:3
            voice 2 24; voice 3 24; note 2 0 1 8; note 2 23 120 0; copy 2 0 3 0 24 = 24; number 3 0 0 = 1
            number 3 1 0 = 8; number 3 0 23 = 120; number 3 1 23 = 0
            copy 0 4 1 3 0 = 0; count 6 = 2
            voice 4 0; copy 4 0 4 0 0 = 0
            """);
        Script.test("BAD: the VOICES; NOTHING: from, then to; BEYOND: of PITCHES; then of LENGTHS (the PITCHES have "
                + "come then, and stay).", """
            copy 6 0 0 0 1 = BAD; copy 0 0 6 0 1 = BAD; copy -1 0 0 0 1 = BAD; copy 0 0 -1 0 1 = BAD
            copy MAX 0 0 0 1 = BAD; copy 0 0 MIN 0 1 = BAD
            copy 0 -1 1 0 1 = NOTHING; tune 0 60:5 61:6; copy 0 0 1 0 9 = NOTHING; copy 1 0 0 0 9 = NOTHING
            voice 1 2; copy 0 0 1 0 3 = BEYOND; told 1 R:1 R:1; count 6 = 0
            cut 0 1 1; copy 0 0 1 0 2 = BEYOND; told 1 60:1 61:1; count 6 = 1
            tune 0 70:5 71:6; cut 1 1 1; copy 0 0 1 0 2 = BEYOND; number 1 0 0 = 70; number 1 0 1 = 71; number 1 1 0 = 1
            count 6 = 1
            """);
    }

    private static void copyBeyond() {
        Script.test("BEYOND is: i, k or n is below 0, or a ROW has not so many.", """
            tune 0 60:1 61:2; voice 1 3
            copy 0 -1 1 0 1 = BEYOND; copy 0 0 1 -1 1 = BEYOND; copy 0 0 1 0 -1 = BEYOND
            copy 0 MIN 1 0 1 = BEYOND; copy 0 0 1 MIN 1 = BEYOND; copy 0 0 1 0 MIN = BEYOND
            copy 0 -1 1 0 0 = BEYOND; copy 0 0 1 -1 0 = BEYOND
            copy 0 0 1 0 3 = BEYOND; copy 0 1 1 0 2 = BEYOND; copy 0 2 1 0 1 = BEYOND; copy 0 3 1 0 0 = BEYOND
            copy 0 0 1 2 2 = BEYOND; copy 0 0 1 3 1 = BEYOND; copy 0 0 1 4 0 = BEYOND
            copy 0 MAX 1 0 MAX = BEYOND; copy 0 0 1 MAX MAX = BEYOND; copy 0 MAX 1 MAX MAX = BEYOND
            copy 0 1 1 0 MAX = BEYOND; copy 0 0 1 1 MAX = BEYOND; copy 0 MIN 1 MIN MAX = BEYOND
            told 1 R:1 R:1 R:1
            copy 0 2 1 3 0 = 0; copy 0 0 1 1 2 = 2; told 1 R:1 60:1 61:2
            cut 0 1 0; copy 0 0 1 0 0 = 0; copy 0 1 1 0 0 = BEYOND; count 6 = 1
            """);
    }

    private static void undo() {
        Script.test("The VOICE that is KEPT is as it was, and nothing is KEPT: 1. STATE: nothing is.", """
            undo = STATE; tune 0 60:1 61:2; note 0 1 70 8; undo = 1; told 0 60:1 61:2; count 7 = 0; undo = STATE
            status = 7; told 0 60:1 61:2
            cut 0 0 1; cut 0 1 0; undo = 1; size 0 0 = 1; size 0 1 = 2; number 0 1 1 = 2
            voice 1 3; undo = 1; size 1 0 = NOTHING; count 3 = 1
            voice 0 24; note 0 23 99 7; drop 0; undo = 1; number 0 0 23 = 99; number 0 1 23 = 7
            """);
    }

    private static void kept() {
        String was = "tune 0 60:1 61:2; ";
        String comesBack = "; count 7 = 1; undo = 1; told 0 60:1 61:2; undo = STATE\n";
        Script.test("KEPT is a VOICE as it was (or that it was MISSING) ahead of the latest of voice(), drop(), "
                + "note(), cut(), transpose(), copy(), read() that was not BAD",
                was + "voice 0 3; told 0 R:1 R:1 R:1" + comesBack, was + "drop 0; size 0 0 = NOTHING" + comesBack,
                was + "note 0 1 0 0; told 0 60:1 R:0" + comesBack, was + "cut 0 1 0; size 0 1 = 0" + comesBack,
                was + "transpose 0 -1; told 0 59:1 60:2" + comesBack,
                was + "copy 0 0 0 1 1; told 0 60:1 60:1" + comesBack, was + "line \"\"; read 0; told 0" + comesBack, """
            drop 5 = 0; count 7 = 1; undo = 1; size 5 0 = NOTHING
            drop 1; voice 1 2; undo = 1; size 1 0 = NOTHING
            drop 1; line "60:1"; read 1 = 1; undo = 1; size 1 0 = NOTHING
            voice 1 1; voice 2 1; note 1 0 50 1; undo = 1; told 1 R:1; told 2 R:1
            tune 3 60:1; tune 4 50:2; copy 3 0 4 0 1; undo = 1; told 3 60:1; told 4 50:2
            """);
    }

    private static void keptNot() {
        Script.test("met no FINDING (or is told to change something with it), and told no wrong place", """
            tune 0 60:1 61:2; note 0 0 70 1
            voice 1 -1 = SIZE; voice 1 25 = BAD; drop 6 = BAD; note 1 0 60 1 = NOTHING; note 0 2 60 1 = BEYOND
            note 0 0 60 9 = BAD; cut 1 0 0 = NOTHING; cut 0 0 -1 = SIZE; cut 0 0 3 = BEYOND; cut 0 0 25 = BAD
            transpose 1 1 = NOTHING; transpose 0 60 = RANGE; transpose 0 61 = BAD
            copy 0 0 1 0 1 = NOTHING; copy 1 0 0 0 1 = NOTHING; copy 0 0 0 1 2 = BEYOND; copy 0 0 6 0 0 = BAD
            line "60:"; read 0 = -103; read 6 = BAD
            count 7 = 1; undo = 1; told 0 60:1 61:2
            voice 1 -1 = SIZE; note 0 2 60 1 = BEYOND; cut 0 0 3 = BEYOND; transpose 0 60 = RANGE
            copy 0 0 0 1 2 = BEYOND; read 0 = -103; count 7 = 0; undo = STATE
            """, """
            tune 1 50:3 51:4; tune 0 60:1 61:2; cut 0 1 1; drop 2; copy 0 0 1 0 2 = BEYOND; told 1 60:3 61:4
            undo = 1; told 1 50:3 51:4
            """);
    }

    private static void keptByTunes() {
        Script.test("or of set(), goOn() that wrote a tune.", """
            tune 0 60:1 62:1; tune 1 50:3 51:3; school 0 0 0; drop 5
            set 1 0 0 true 60 64 1 = 1; undo = 1; undo = STATE
            goOn 0 = 1; count 7 = 0; goOn 1 = 0; count 7 = 1; told 1 61:1 62:1; undo = 1; told 1 50:3 51:3
            goOn 0 = STATE; count 7 = 0
            set 1 0 0 true 60 64 2 = 0; count 7 = 1; undo = 1; told 1 50:3 51:3
            set 1 0 0 true 50 55 2 = NONE; count 7 = 0
            set 5 0 0 true 60 64 2 = NOTHING; count 7 = 0; voice 5 1; undo; goOn 0 = NOTHING; count 7 = 0
            set 0 0 0 true 60 64 2 = 0; told 0 61:1 62:1; undo = 1; told 0 60:1 62:1
            """);
    }
}
