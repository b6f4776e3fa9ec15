/** What the document says of THE LINE, and promises 36 to 40, sentence by sentence. */
public final class LineSentencesTest {
    private static final String FULL = "R:1" + " R:1".repeat(23);

    public static void main(String[] args) {
        upToOneHundredAndSixty();
        nothingOrNotes();
        aNote();
        length();
        twentyFour();
        print();
        read();
        readPlaces();
        readNumbers();
        put();
        cutLine();
        character();
        Script.end(36, 40);
    }

    private static void upToOneHundredAndSixty() {
        Script.test("THE LINE has up to 160 characters.", "line \"" + "x".repeat(159) + "\"", """
            put 160 'x' = BAD; put 159 'y' = 1; put 160 'x' = BAD; put 159 'z' = 1; character 159 = 122
            character 160 = NONE; character 158 = 120; put 161 'x' = BAD; cutLine 161 = BAD; cutLine 160 = 160
            cutLine 159 = 160; put 160 'x' = BAD; put 159 'x' = 1; cutLine 0 = 160; put 0 'a' = 1; says "a"
            """);
    }

    private static void nothingOrNotes() {
        Script.test("A VOICE is told as: nothing, or notes with one blank between", """
            tune 0 60:1; line ""; read 0 = 0; told 0; voice 1 0; print 1 = 0; says ""
            line "60:1"; read 0 = 1; told 0 60:1; line "60:1 R:2"; read 0 = 2; told 0 60:1 R:2; print 0 = 8
            says "60:1 R:2"
            line " "; read 0 = -100; line " 60:1"; read 0 = -100; line "60:1 "; read 0 = -105
            line "60:1  61:1"; read 0 = -105; line "60:1,61:1"; read 0 = -104; line "60:161:1"; read 0 = -104
            told 0 60:1 R:2
            """);
    }

    private static void aNote() {
        Script.test("a note is R (a REST) or a number 1 .. 120 (one to three digits; told without 0s ahead), then a "
                + "colon", """
            line "1:1"; read 0 = 1; told 0 1:1; line "9:1"; read 0 = 1; line "10:1"; read 0 = 1; told 0 10:1
            line "99:1"; read 0 = 1; told 0 99:1; line "100:1"; read 0 = 1; told 0 100:1; print 0 = 5; says "100:1"
            line "120:1"; read 0 = 1; told 0 120:1; print 0 = 5; says "120:1"
            line "121:1"; read 0 = -100; line "0:1"; read 0 = -100; line "00:1"; read 0 = -100; line "000:1"
            read 0 = -100
            line "999:1"; read 0 = -100; told 0 120:1
            line "007:1"; read 0 = 1; told 0 7:1; print 0 = 3; says "7:1"; line "012:1"; read 0 = 1; print 0 = 4
            says "12:1"
            line "0007:1"; read 0 = -100; line "0120:1"; read 0 = -100; line "1000:1"; read 0 = -100; told 0 12:1
            line "R:1"; read 0 = 1; told 0 R:1; line "r:1"; read 0 = -100; line "RR:1"; read 0 = -101
            line "R1:1"; read 0 = -101; line "1R:1"; read 0 = -101; line "-1:1"; read 0 = -100; line "+1:1"
            read 0 = -100
            line "60"; read 0 = -102; line "60-1"; read 0 = -102; line "60 :1"; read 0 = -102; line "R"
            read 0 = -101; line ":1"; read 0 = -100; told 0 R:1
            """);
    }

    private static void length() {
        Script.test("then a digit 0 .. 8, its LENGTH", """
            line "60:0"; read 0 = 1; told 0 60:0; line "60:8"; read 0 = 1; told 0 60:8; print 0 = 4; says "60:8"
            line "60:9"; read 0 = -103; line "60:/"; read 0 = -103; line "60::"; read 0 = -103; line "60:"
            read 0 = -103
            line "60:R"; read 0 = -103; line "60: 1"; read 0 = -103; line "60:10"; read 0 = -104; line "60:08"
            read 0 = -104; line "60:8:"; read 0 = -104; told 0 60:8
            """);
    }

    private static void twentyFour() {
        Script.test("24 notes at most (behind the 24th nothing can come).", "line \"" + FULL + "\"", """
            read 0 = 24; size 0 0 = 24; size 0 1 = 24; put 95 32; read 0 = -195; put 95 'x'; read 0 = -195; put 95 '2'
            read 0 = -195; put 95 32; put 96 'R'; put 97 ':'; put 98 '1'; read 0 = -195; cutLine 95; read 0 = 24
            cutLine 94; read 0 = -194; cutLine 91; read 0 = 23
            """);
    }

    private static void print() {
        Script.test("THE LINE tells a VOICE, gone through: how many characters it has. BAD; NOTHING; BEYOND (THE LINE "
                + "is as it was).", """
            line "as it was"; print 0 = NOTHING; print 6 = BAD; print -1 = BAD; print MAX = BAD; print MIN = BAD
            tune 0 1:0 10:8 R:1 99:3 120:4; cut 0 1 4; print 0 = BEYOND; says "as it was"
            cut 0 0 4; print 0 = 17; says "1:0 10:8 R:1 99:3"
            tune 1 1:0 10:8 R:1 99:3 120:4; print 1 = 23; says "1:0 10:8 R:1 99:3 120:4"
            voice 1 0; print 1 = 0; says ""; voice 5 1; print 5 = 3; says "R:1"
            tune 3 9:1; print 3 = 3; says "9:1"; tune 3 10:1; print 3 = 4; says "10:1"
            voice 2 3; cut 2 0 2; print 2 = 7; says "R:1 R:1"
            """);
        Script.test("THE LINE tells a VOICE, gone through: how many characters it has.",
                "tune 0 120:8" + " 120:8".repeat(23),
                "print 0 = 143; character 142 = 56; character 143 = NONE; read 1 = 24; number 1 0 23 = 120; number 1 1 "
                + "23 = 8");
    }

    private static void read() {
        Script.test("A VOICE has new ROWS as THE LINE tells: how many NOTES", """
            line "60:1 R:2 120:8"; read 5 = 3; told 5 60:1 R:2 120:8; tune 0 1:1 2:2 3:3 4:4; cut 0 1 1; read 0 = 3
            told 0 60:1 R:2 120:8; says "60:1 R:2 120:8"; cutLine 0; read 0 = 0; told 0; read 4 = 0; told 4; count 3 = 3
            read 6 = BAD; read -1 = BAD; read MAX = BAD; read MIN = BAD; status = 0
            """);
    }

    private static void readPlaces() {
        Script.test("or -100 less the place of the first character that can not come (THE LINE's end: how many it "
                + "has).", """
            tune 0 50:5; undo; undo; tune 0 50:5; drop 5; undo; line "x"; read 0 = -100; line "60:1 61:1 x"
            read 0 = -110
            line "60:1 61:1 62"; read 0 = -112; line "60:1 61:1 62:"; read 0 = -113; line "60:1 61:1 "; read 0 = -110
            line "60:1 61:1 R"; read 0 = -111; line "60:1 61:1x 99"; read 0 = -109
            told 0 50:5; count 7 = 0; read 0 = -109; status = 0
            """, "line \"" + "R:1 ".repeat(22) + "120:8 9" + "\"", "read 1 = -195",
                "line \"" + "1".repeat(160) + "\"", "read 1 = -100; size 1 0 = NOTHING");
    }

    private static void readNumbers() {
        Script.test("(A number that is not as told can not come where it begins; it has all digits that stand there.)",
                """
            line "60:1 121:1"; read 0 = -105; line "60:1 1200:1"; read 0 = -105; line "60:1 0:1"; read 0 = -105
            line "60:1 1234"; read 0 = -105; line "60:1 0060:1"; read 0 = -105; line "60:1 121"; read 0 = -105
            line "60:1 120"; read 0 = -108; line "60:1 120x"; read 0 = -108; line "99999999999:1"; read 0 = -100
            line "4294967356:1"; read 0 = -100; line "2147483648:1"; read 0 = -100; line "18446744073709551676:1"
            read 0 = -100; line "60:1 0"; read 0 = -105; line "60:1 121x"; read 0 = -105; size 0 0 = NOTHING
            """);
    }

    private static void put() {
        Script.test("Character i of THE LINE (i is how many it has: one more) becomes c (32 .. 126): 1. BAD.", """
            put 1 'a' = BAD; put -1 'a' = BAD; put MAX 'a' = BAD; put MIN 'a' = BAD; put 0 31 = BAD; put 0 127 = BAD
            put 0 0 = BAD; put 0 MAX = BAD; put 0 MIN = BAD; put 0 -1 = BAD; says ""
            put 0 32 = 1; put 1 126 = 1; character 0 = 32; character 1 = 126; character 2 = NONE
            put 3 'a' = BAD; put 1 'b' = 1; put 0 'a' = 1; says "ab"; put 2 127 = BAD; put 1 31 = BAD; says "ab"
            put 2 'c' = 1; says "abc"
            """);
    }

    private static void cutLine() {
        Script.test("THE LINE has its first n characters: how many it had. BAD: it has not so many.", """
            cutLine 0 = 0; cutLine 1 = BAD; line "abcd"; cutLine 5 = BAD; cutLine -1 = BAD; cutLine MAX = BAD
            cutLine MIN = BAD; says "abcd"; cutLine 4 = 4; says "abcd"; cutLine 2 = 4; says "ab"; cutLine 3 = BAD
            cutLine 0 = 2; says ""
            """);
    }

    private static void character() {
        Script.test("Character i of THE LINE; NONE.", """
            character 0 = NONE; line "ab"; character 0 = 97; character 1 = 98; character 2 = NONE; character -1 = NONE
            character MAX = NONE; character MIN = NONE; cutLine 1; character 1 = NONE; character 0 = 97
            """);
    }
}
