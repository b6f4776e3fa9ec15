/** What the document says of what a RULE does, and promises 23 to 25, sentence by sentence. */
public final class FaultSentencesTest {
    /** 24 NOTES of the greatest LENGTH. */
    private static final String FULL = "60:8" + " 60:8".repeat(23);
    private static final String RULES_TRUE = "all 0 0; all 0 1\n";

    public static void main(String[] args) {
        distance();
        listens();
        interval();
        motion();
        ways();
        cadence();
        leapHow();
        leapAnswered();
        mendsOfAll();
        mendsOfIntervals();
        mendsFarthest();
        mendsOfCadences();
        asked();
        order();
        faults();
        noted();
        fault();
        mend();
        mendAsItIsNow();
        Script.end(23, 25);
    }

    private static void distance() {
        Script.test("The DISTANCE of two PITCHES is the greater one less the other one.", """
            rule 0 0; truths 0 0 7
            tune 0 60:1; tune 1 67:1; faults 0 = 0; tune 1 53:1; faults 0 = 0; tune 1 65:1; faults 0 = 1
            tune 1 55:1; faults 0 = 1
            """);
    }

    private static void listens() {
        Script.test("LISTENS: [10] of all, if a and b are two; but [11] of LEAP, if they are one.", """
            tune 0 60:1; tune 1 61:1; rule 0 0; rule 1 1; rule 2 2; rule 3 3
            faults 0 = 1; traced 10 10 1 10
            faults 1 = 1; traced 10 10 2 1 10
            faults 2 = 0; traced 11 4 11 11 4
            faults 3 = 1; traced 10 10 3 2 1 10
            canon 0 2 0 0 0 = NONE; traced 11
            """);
    }

    private static void interval() {
        Script.test("of INTERVAL [1], if t is STRONG (a multiple of a number that is told, 4 at first)", """
            tune 0 60:8 60:1; tune 1 61:8 61:1; rule 0 0
            faults 0 = 3; fault 0 1 = 0; fault 1 1 = 4; fault 2 1 = 8
            tune 0 R:1 60:3; faults 0 = 0; tune 0 R:1 60:4; faults 0 = 1; tune 0 60:1; faults 0 = 1
            strong 5; tune 0 R:1 60:4; faults 0 = 0; strong 3; faults 0 = 1; fault 0 1 = 3
            """);
        Script.test("and its RESTS of the DISTANCE of p and q modulo 12 is false.", """
            rule 0 0; truths 0 0 0; tune 0 60:1
            tune 1 60:1; faults 0 = 0; tune 1 72:1; faults 0 = 0; tune 1 48:1; faults 0 = 0; tune 1 61:1; faults 0 = 1
            tune 1 71:1; faults 0 = 1; tune 1 73:1; faults 0 = 1; tune 1 120:1; faults 0 = 0
            rule 0 0; truths 0 0 11
            tune 1 71:1; faults 0 = 0; tune 1 83:1; faults 0 = 0; tune 1 49:1; faults 0 = 0; tune 1 72:1; faults 0 = 1
            tune 0 1:1; tune 1 120:1; faults 0 = 0; tune 1 119:1; faults 0 = 1
            """);
    }

    private static void motion() {
        Script.test("Of MOTION [2]: if the body of INTERVAL [1] tells one", """
            tune 0 60:1 60:1; tune 1 67:1 67:1; rule 0 1; all 0 1
            faults 0 = 1; fault 0 1 = 0; truths 0 0 7; faults 0 = 0
            """);
        Script.test("else if both SOUND at t - 1, one of them with another PITCH", "rule 0 1; all 0 0", """
            tune 0 60:1 61:1; tune 1 67:1 67:1; faults 0 = 1; fault 0 1 = 1
            tune 0 60:1 60:1; tune 1 66:1 67:1; faults 0 = 1; tune 1 67:1 67:1; faults 0 = 0
            tune 0 61:1; tune 1 67:1; faults 0 = 0
            tune 0 60:1 61:1; tune 1 R:1 67:1; faults 0 = 0; tune 0 R:1 61:1; tune 1 66:1 67:1; faults 0 = 0
            tune 0 60:1 R:1 61:1; tune 1 67:1 R:1 68:1; faults 0 = 0
            tune 0 60:1 R:0 61:1; tune 1 67:1 66:0 68:1; faults 0 = 1; fault 0 1 = 1
            """);
    }

    /** Two VOICES at TICKS 0 and 1, and which of COMES is the one truth that matters. */
    private static void way(String sentence, String a, String b, int come) {
        Script.test(sentence, "tune 0 " + a + "; tune 1 " + b + "; rule 0 1", RULES_TRUE,
                "faults 0 = 0; truth 0 1 " + come + " false = 1; faults 0 = 1; fault 0 1 = 1",
                "tune 0 " + b + "; tune 1 " + a + "; faults 0 = 1; rule 0 1; all 0 0; truths 0 1 " + come
                + "; faults 0 = 0");
    }

    private static void ways() {
        way("and COMES of 12 times the way and that DISTANCE modulo 12 is false", "60:1 60:1", "72:1 85:1", 13);
        way("and COMES of 12 times the way and that DISTANCE modulo 12 is false", "1:1 2:1", "120:1 119:1", 9);
        way("and COMES of 12 times the way and that DISTANCE modulo 12 is false", "2:1 1:1", "119:1 120:1", 11);
        way("ways 3: both moved by the same number of half steps the same way", "60:1 61:1", "60:1 61:1", 36);
        way("ways 3: both moved by the same number of half steps the same way", "60:1 61:1", "71:1 72:1", 47);
        way("ways 3: both moved by the same number of half steps the same way", "61:1 59:1", "72:1 70:1", 47);
        way("2: both the same way else", "60:1 61:1", "59:1 61:1", 24);
        way("2: both the same way else", "60:1 61:1", "70:1 72:1", 35);
        way("2: both the same way else", "62:1 61:1", "75:1 72:1", 35);
        way("1: just one moved", "60:1 60:1", "61:1 60:1", 12);
        way("1: just one moved", "60:1 60:1", "70:1 71:1", 23);
        way("1: just one moved", "60:1 60:1", "82:1 83:1", 23);
        way("0: one up, the other one down.", "59:1 60:1", "61:1 60:1", 0);
        way("0: one up, the other one down.", "59:1 60:1", "72:1 71:1", 11);
        way("0: one up, the other one down.", "59:1 60:1", "63:1 60:1", 0);
    }

    private static void cadence() {
        Script.test("Of CADENCE [3]: if the body of MOTION [2] tells one", "rule 0 3", RULES_TRUE, """
            tune 0 60:1 60:1; tune 1 61:1 60:1; faults 0 = 0; truth 0 1 12 false; faults 0 = 1; fault 0 1 = 1
            truth 0 0 1 false; faults 0 = 2; fault 0 1 = 0
            """);
        Script.test("else if t is the last TICK at which both SOUND, and the DISTANCE of p and q modulo 12 is not 0.",
                "rule 0 3", RULES_TRUE, """
            tune 0 60:2; tune 1 60:2; faults 0 = 0; tune 1 72:2; faults 0 = 0; tune 1 36:2; faults 0 = 0
            tune 1 61:2; faults 0 = 1; fault 0 1 = 1; tune 1 71:2; faults 0 = 1; tune 1 73:2; faults 0 = 1
            tune 1 67:1 60:1; faults 0 = 0; tune 1 60:1 67:1; faults 0 = 1; fault 0 1 = 1
            tune 0 60:4; tune 1 60:1 67:1; faults 0 = 1; fault 0 1 = 1; tune 1 67:1 60:1; faults 0 = 0
            tune 1 60:1 67:1 R:1 60:1; faults 0 = 0; tune 1 60:1 67:1 R:1 61:1; faults 0 = 1; fault 0 1 = 3
            tune 1 60:1 67:1 R:2; faults 0 = 1; fault 0 1 = 1
            tune 0 60:1; tune 1 61:1; faults 0 = 1; fault 0 1 = 0; tune 1 R:1 61:1; faults 0 = 0
            tune 1 61:4; faults 0 = 1; fault 0 1 = 0; tune 0 60:1 R:2; faults 0 = 1; fault 0 1 = 0
            """);
        Script.test("t is the last TICK at which both SOUND", "rule 0 3", RULES_TRUE, """
            tune 3 60:1; tune 4 61:2; tune 5 60:3; faults 0 = 2; fault 0 1 = 0; fault 0 2 = 3; fault 0 3 = 4
            fault 1 1 = 1; fault 1 2 = 4; fault 1 3 = 5
            tune 1 60:4; faults 0 = 3; fault 1 1 = 1; fault 1 2 = 1; fault 1 3 = 4
            """);
        Script.test("else if t is the last TICK at which both SOUND, and the DISTANCE of p and q modulo 12 is not 0.",
                "rule 0 3", RULES_TRUE, "tune 0 " + FULL, "tune 1 " + FULL,
                "faults 0 = 0; note 1 23 61 8; faults 0 = 1; fault 0 1 = 191");
    }

    private static void leapHow() {
        String sentence = "at the first TICK behind t at which it is SILENT or has another PITCH than p, it SOUNDS, "
                + "but not 1 or 2 half steps from p towards where it came from (down behind a leap up, up behind one "
                + "down).";
        Script.test(sentence, "rule 0 2; truths 0 2 7", """
            tune 0 60:1 67:1 66:1; faults 0 = 0; tune 0 60:1 67:1 65:1; faults 0 = 0
            tune 0 60:1 67:1 64:1; faults 0 = 1; fault 0 1 = 1; fault 0 2 = 0; fault 0 3 = 0
            tune 0 60:1 67:1 68:1; faults 0 = 1; tune 0 60:1 67:1 69:1; faults 0 = 1; tune 0 60:1 67:1 60:1
            faults 0 = 1
            tune 0 67:1 60:1 61:1; faults 0 = 0; tune 0 67:1 60:1 62:1; faults 0 = 0
            tune 0 67:1 60:1 63:1; faults 0 = 1; fault 0 1 = 1
            tune 0 67:1 60:1 59:1; faults 0 = 1; tune 0 67:1 60:1 58:1; faults 0 = 1
            """);
        Script.test(sentence, "rule 0 2; truths 0 2 7", """
            tune 0 60:1 67:1; faults 0 = 0; tune 0 60:1 67:8; faults 0 = 0; tune 0 60:1 67:1 R:1 90:1; faults 0 = 0
            tune 0 60:1 67:1 R:0 90:1; faults 0 = 1; tune 0 60:1 67:1 66:0 90:1; faults 0 = 1
            tune 0 60:1 67:1 67:1 90:1; faults 0 = 1; fault 0 1 = 1; tune 0 60:1 67:1 67:8 66:1; faults 0 = 0
            tune 0 60:8 67:8 90:1; faults 0 = 1; fault 0 1 = 8
            """);
    }

    private static void leapAnswered() {
        Script.test("if the VOICE SOUNDS at t - 1 with p', another one than p", "rule 0 2; all 0 2", """
            tune 0 60:1; faults 0 = 0; tune 0 60:1 60:1 67:1; faults 0 = 0; tune 0 60:1 R:1 67:1 90:1; faults 0 = 0
            tune 0 60:1 67:0 61:1 90:1; faults 0 = 1; fault 0 1 = 1
            """);
        Script.test("ANSWERED of their DISTANCE (24, if it is greater) is true", "rule 0 2", """
            truths 0 2 24
            tune 0 60:1 83:1 90:1; faults 0 = 0; tune 0 60:1 84:1 90:1; faults 0 = 1; tune 0 60:1 85:1 90:1
            faults 0 = 1
            tune 0 1:1 120:1 90:1; faults 0 = 1; tune 0 120:1 1:1 90:1; faults 0 = 1
            truths 0 2 23; truth 0 2 24 false = 1
            tune 0 60:1 83:1 90:1; faults 0 = 1; tune 0 60:1 84:1 90:1; faults 0 = 0; tune 0 60:1 85:1 90:1
            faults 0 = 0
            rule 0 2; truths 0 2 1; tune 0 60:1 61:1 90:1; faults 0 = 1; tune 0 60:1 62:1 90:1; faults 0 = 0
            rule 0 2; truths 0 2 0; tune 0 60:1 60:1 90:1; faults 0 = 0
            """);
    }

    private static void mendsOfAll() {
        Script.test("MENDS: [20] of all: NONE", """
            tune 0 60:1 67:1 90:1; rule 0 2; truths 0 2 7; faults 0 = 1; mend 0 = NONE; traced 20; status = 0
            """);
    }

    /** VOICES of one TICK, an INTERVAL that tells a FAULT of them and then gets one truth. */
    private static String mend(int p, int q, int rests, String want, int asked) {
        return "tune 0 %d:1; tune 1 %d:1; rule 0 0; faults 0 = 1; truth 0 0 %d true; mend 0 = %s; count 2 = %d\n"
                .formatted(p, q, rests, want, 1 + asked);
    }

    private static void mendsOfIntervals() {
        String sentence = "[21] of INTERVALS: the PITCH of 1 .. 120 nearest to p, 1 to 24 from it, of two the lower "
                + "one first, with which, in place of p at t alone, the RULE would tell no FAULT (each is asked, one "
                + "after the other)";
        Script.test(sentence, mend(60, 60, 1, "59", 1), mend(60, 61, 0, "61", 2), mend(60, 61, 2, "59", 1),
                mend(60, 62, 1, "61", 2), mend(60, 60, 11, "49", 21), mend(60, 60, 6, "54", 11));
        Script.test(sentence, mend(1, 1, 1, "2", 1), mend(2, 2, 1, "1", 1), mend(2, 2, 2, "4", 3),
                mend(120, 120, 1, "119", 1), mend(120, 119, 2, "117", 3), mend(119, 118, 2, "120", 2),
                mend(118, 119, 2, "117", 1));
        String none = "tune 0 %d:1; tune 1 61:1; rule 0 0; faults 0 = 1; mend 0 = NONE; count 2 = %d\n";
        Script.test("NONE, if there is none;", none.formatted(60, 49), none.formatted(25, 49), none.formatted(24, 48),
                none.formatted(1, 25), none.formatted(96, 49), none.formatted(97, 48), none.formatted(120, 25));
    }

    /** A way that only one PITCH has, which lies as far as may be or just beyond. */
    private static void mendsFarthest() {
        String sentence = "1 to 24 from it";
        Script.test(sentence, "rule 0 1; all 0 0; truths 0 1 27", """
            tune 0 70:1 50:1; tune 1 100:1 101:1; faults 0 = 1; fault 0 1 = 1; mend 0 = 74; count 2 = 97
            tune 0 70:1 49:1; faults 0 = 1; mend 0 = NONE; count 2 = 97
            """);
        Script.test(sentence, "rule 0 1; all 0 0; truths 0 1 28", """
            tune 0 40:1 60:1; tune 1 101:1 100:1; faults 0 = 1; fault 0 1 = 1; mend 0 = 36; count 2 = 95
            tune 0 40:1 61:1; faults 0 = 1; mend 0 = NONE; count 2 = 97
            """);
        Script.test("in place of p at t alone", "rule 0 1; all 0 0; truths 0 1 12", """
            tune 0 60:4; tune 1 61:1 62:3; faults 0 = 1; fault 0 1 = 1; mend 0 = NONE
            truths 0 1 36; mend 0 = NONE; truths 0 1 37; mend 0 = 61; told 0 60:4
            """);
    }

    private static void mendsOfCadences() {
        Script.test("[22] of CADENCES: q, if with that in place of p it would tell no FAULT (it is asked first)", """
            rule 0 3; tune 0 60:1; tune 1 67:1; truths 0 0 0; faults 0 = 1; mend 0 = 67; traced 22 3 2 1
            tune 0 1:1; tune 1 120:1; faults 0 = 1; mend 0 = 120; traced 22 3 2 1
            """);
        Script.test("else what [21] gives.", """
            rule 0 3; truths 0 0 2; tune 0 60:1 60:1; tune 1 61:1 60:1; all 0 1; faults 0 = 1; fault 0 1 = 0
            mend 0 = 59; traced 22 3 2 1 21 3 2 1
            rule 0 3; faults 0 = 2; mend 0 = NONE; count 2 = 149
            """);
        Script.test("else if t is the last TICK at which both SOUND", """
            rule 0 3; truths 0 0 7; tune 0 60:1; tune 1 61:1; faults 0 = 1; mend 0 = NONE
            tune 0 60:2; mend 0 = NONE; tune 1 61:2; mend 0 = 54; tune 0 60:1; mend 0 = NONE
            tune 0 60:1 R:1 60:1; mend 0 = NONE; tune 1 61:3; mend 0 = 54
            """);
    }

    private static void asked() {
        Script.test("each LISTENS, and if it does, it tells whether there is a FAULT.", """
            tune 0 60:1; tune 1 61:1; rule 0 0; rule 1 2; school 2 0 2; seat 2 0 1; seat 2 1 0
            faults 2 = 1; traced 11 4 10 11 10 1 11 4 10; truths 0 0 1; faults 2 = 0; traced 11 4 10 11 10 1 11 4 10
            """);
        Script.test("each one puts its number (in [ ]) into THE TRACE as it begins.", """
            tune 0 60:1; tune 1 61:1; rule 0 3; faults 0 = 1; traced 10 10 3 2 1 10; mend 0 = NONE; trace 0 = 22
            trace 1 = 3; trace 2 = 2; trace 3 = 1; trace 4 = 21; trace 5 = 3; count 2 = 149
            """);
        Script.test("What stands at a PLACE is ASKED at a TICK of two VOICES (or one twice) that both SOUND there", """
            tune 0 60:1 R:1; tune 1 R:1 61:1; rule 0 0; strong 1; faults 0 = 0; traced 10 10
            tune 1 R:1 61:1 61:1; faults 0 = 0; traced 10 10 10; drop 0; faults 0 = 0; traced 10 10
            drop 1; faults 0 = 0; traced; voice 0 0; faults 0 = 0; traced; tune 0 60:0; faults 0 = 0; traced
            """);
        Script.test("a RULE, or the RULES of a SCHOOL from SEAT 0 on (nothing is left out)", """
            tune 0 60:1; tune 1 61:1; rule 0 0; rule 1 1; rule 2 2; school 3 0 8
            faults 3 = 0; traced; seat 3 7 0; seat 3 0 1; seat 3 3 2; drop 1; faults 3 = 0; traced 10 11 4 10
            tune 1 61:1; faults 3 = 2; traced 10 11 4 10 10 2 1 11 10 1 10 11 4 10; fault 0 0 = 0; fault 1 0 = 7
            school 3 0 0; faults 3 = 0; traced
            """);
    }

    private static void order() {
        Script.test("FAULTS of a PLACE: it is ASKED for TICK after TICK from 0 on, for a from 0 on, for b from a on, "
                + "of all VOICES.", """
            tune 0 60:1 60:1; tune 3 61:1 61:1; tune 5 62:1 62:1; rule 0 0; strong 1
            faults 0 = 6
            fault 0 1 = 0; fault 0 2 = 0; fault 0 3 = 3; fault 1 1 = 0; fault 1 2 = 0; fault 1 3 = 5
            fault 2 1 = 0; fault 2 2 = 3; fault 2 3 = 5; fault 3 1 = 1; fault 3 2 = 0; fault 3 3 = 3
            fault 5 1 = 1; fault 5 2 = 3; fault 5 3 = 5; fault 6 1 = NONE
            traced 10 10 1 10 1 10 10 1 10 10 10 1 10 1 10 10 1 10
            """);
    }

    private static void faults() {
        Script.test("VOICES that are there are gone through first, by their numbers. BAD; BEYOND; NOTHING: nothing "
                + "stands there (what was noted stays then).", """
            tune 0 60:1; tune 5 61:1; rule 0 0; faults 0 = 1; count 0 = 1
            faults 16 = BAD; faults -1 = BAD; faults MAX = BAD; faults MIN = BAD; count 2 = 4
            faults 1 = NOTHING; count 0 = 1; fault 0 3 = 5; traced
            cut 5 1 0; faults 1 = BEYOND; faults 0 = BEYOND; faults 16 = BAD; count 0 = 1; fault 0 3 = 5; traced
            mend 0 = BEYOND; drop 5; faults 1 = NOTHING; fault 0 3 = 5
            faults 0 = 0; count 0 = 0; fault 0 3 = NONE
            """);
    }

    private static void noted() {
        // three VOICES on 64 TICKS have 192 FAULTS, and each TICK of a fourth one has three more
        String long8 = "60:8" + " 60:8".repeat(7);
        Script.test("how many; the first 200 are noted, in place of those that were.",
                "tune 0 " + long8, "tune 1 " + long8, "tune 2 " + long8, "rule 0 0; strong 1", """
            tune 3 60:2; faults 0 = 198; count 0 = 198; fault 197 1 = 63; fault 198 1 = NONE; mend 198 = NONE
            tune 3 60:3; faults 0 = 201; count 0 = 201
            fault 199 1 = 63; fault 199 2 = 0; fault 199 3 = 2; fault 200 1 = NONE; fault 200 0 = NONE
            mend 200 = NONE; traced; mend 199 = NONE; count 2 = 49
            truths 0 0 0; faults 0 = 0; fault 0 1 = NONE; fault 199 1 = NONE; mend 0 = NONE; count 0 = 0
            """);
        Script.test("the first 200 are noted", "tune 0 " + FULL, "tune 1 " + FULL, "rule 0 0; strong 1", """
            faults 0 = 192; fault 191 1 = 191; fault 192 1 = NONE
            tune 2 R:1 60:4; faults 0 = 200; fault 199 1 = 191; fault 199 3 = 1; fault 200 1 = NONE
            mend 199 = NONE; count 2 = 49; tune 2 R:1 60:4 R:1; faults 0 = 200
            note 2 1 60 5; faults 0 = 202; fault 199 1 = 189; fault 200 1 = NONE; count 0 = 202
            """);
    }

    private static void fault() {
        Script.test("Of the i-th FAULT that is noted: 0 the SEAT of its RULE (NONE: no SCHOOL was asked), 1 the TICK, "
                + "2 a, 3 b. NONE: there is none such. BAD: what.", """
            fault 0 0 = NONE; fault 0 3 = NONE; fault 0 4 = BAD; fault 0 -1 = BAD
            tune 2 R:4 60:1; tune 4 R:4 61:1; rule 0 0; faults 0 = 1
            fault 0 0 = NONE; fault 0 1 = 4; fault 0 2 = 2; fault 0 3 = 4
            fault 0 4 = BAD; fault 0 -1 = BAD; fault 0 MAX = BAD; fault 0 MIN = BAD; fault 9 4 = BAD
            fault 1 1 = NONE; fault -1 1 = NONE; fault MAX 1 = NONE; fault MIN 1 = NONE
            school 1 0 8; seat 1 7 0; faults 1 = 1; fault 0 0 = 7; seat 1 0 0; faults 1 = 2; fault 0 0 = 0
            fault 1 0 = 7
            clear 1; clear 0; drop 2; fault 0 0 = 0; fault 0 1 = 4; fault 0 2 = 2
            """);
    }

    private static void mend() {
        Script.test("the PITCH that a should have; NONE (also: there is no such FAULT, or a or b is SILENT there "
                + "now).", """
            mend 0 = NONE; mend -1 = NONE; mend MAX = NONE; mend MIN = NONE; status = 0
            tune 0 60:1; tune 1 61:1; rule 0 0; faults 0 = 1; truths 0 0 2; mend 0 = 59; told 0 60:1; told 1 61:1
            end 5 = NOTHING; mend 0 = 59; status = 0; count 1 = 1
            mend 1 = NONE; traced; mend -1 = NONE; status = 0
            tune 0 R:1; mend 0 = NONE; traced; tune 0 60:0; mend 0 = NONE; drop 0; mend 0 = NONE; status = 0
            tune 0 60:1; tune 1 R:1; mend 0 = NONE; tune 1 R:1 61:1; mend 0 = NONE; drop 1; mend 0 = NONE; traced
            tune 1 61:1; mend 0 = 59
            """);
        Script.test("BEYOND: a, then b, each gone through if it is there.", """
            tune 0 60:1; tune 1 61:1; rule 0 0; faults 0 = 1; truths 0 0 2
            cut 0 1 0; mend 0 = BEYOND; traced; mend 1 = NONE; status = 0; cut 1 1 0; mend 0 = BEYOND; status = 2
            tune 0 60:1; mend 0 = BEYOND; drop 0; mend 0 = BEYOND; drop 1; mend 0 = NONE; tune 0 60:1; cut 0 1 0
            mend 0 = BEYOND; tune 0 60:1; tune 1 61:1; tune 2 60:1; cut 2 1 0; mend 0 = 59
            """);
    }

    private static void mendAsItIsNow() {
        Script.test("MENDS of the RULE of the i-th FAULT that is noted (wherever that RULE is now), for its TICK, a, "
                + "b, with all as it is now", """
            tune 0 60:1; tune 1 61:1; rule 0 0; school 1 0 1; seat 1 0 0; faults 1 = 1
            truths 0 0 7; clear 0; clear 1; mend 0 = 54
            note 1 0 66 1; mend 0 = 59; note 0 0 70 1; mend 0 = 73
            rule 0 0; rule 1 0; mend 0 = 73
            tune 0 60:8; tune 1 61:8; faults 0 = 2; strong 3 = 4; mend 1 = 59; traced 21 1; strong 2; mend 1 = NONE
            rule 2 3; all 2 0; all 2 1; tune 0 60:2; tune 1 61:2; faults 2 = 1; fault 0 1 = 1; mend 0 = 61
            tune 0 60:1 60:2; tune 1 61:3; mend 0 = 61; traced 22 3 2 1
            """);
    }
}
