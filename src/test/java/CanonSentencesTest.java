/** What the document says of FOLLOWERS and CANONS, and promises 26 to 28, sentence by sentence. */
public final class CanonSentencesTest {
    public static void main(String[] args) {
        follower();
        followerSilent();
        canonAsked();
        canonOfMotionAndCadence();
        canon();
        canonFindings();
        canons();
        canonsFindings();
        follows();
        Script.end(26, 28);
    }

    private static void follower() {
        Script.test("at TICK t it has, with s = t - k (HOW 2: half of that, rounded down), if v SOUNDS at s with x: x "
                + "and by (HOW 0, 2)", """
            tune 0 60:1 62:1
            follows 0 0 0 3 0 = 63; follows 0 1 0 3 0 = 65; follows 0 2 0 3 0 = 0
            follows 0 59 60 3 0 = 0; follows 0 60 60 3 0 = 63; follows 0 61 60 3 0 = 65; follows 0 62 60 3 0 = 0
            follows 0 4 5 -3 2 = 0; follows 0 5 5 -3 2 = 57; follows 0 6 5 -3 2 = 57; follows 0 7 5 -3 2 = 59
            follows 0 8 5 -3 2 = 59; follows 0 9 5 -3 2 = 0
            """);
        Script.test("or by and twice the PITCH of v's first NOTE that is no REST, less x (HOW 1)", """
            tune 0 60:1 62:1 57:1; follows 0 0 0 0 1 = 60; follows 0 1 0 0 1 = 58; follows 0 2 0 0 1 = 63
            follows 0 1 0 5 1 = 63; follows 0 3 1 0 1 = 63; follows 0 0 1 0 1 = 0
            tune 0 R:1 60:1 62:1; follows 0 2 0 0 1 = 58; follows 0 0 0 0 1 = 0
            tune 0 70:0 60:1 62:1; follows 0 0 0 0 1 = 80; follows 0 1 0 0 1 = 78
            voice 0 1; follows 0 0 0 0 1 = 0; voice 0 0; follows 0 0 0 0 1 = 0
            tune 0 R:1; follows 0 0 0 60 1 = 0
            """);
    }

    private static void followerSilent() {
        Script.test("it is SILENT where that is not 1 .. 120, where v is SILENT at s, and ahead of k.", """
            tune 0 60:1 61:1 59:1 R:1 1:1 120:1
            follows 0 0 0 60 0 = 120; follows 0 1 0 60 0 = 0; follows 0 1 0 59 0 = 120; follows 0 2 0 60 0 = 119
            follows 0 0 0 -60 0 = 0; follows 0 0 0 -59 0 = 1; follows 0 1 0 -60 0 = 1; follows 0 2 0 -60 0 = 0
            follows 0 3 0 60 0 = 0; follows 0 3 0 60 2 = 0; follows 0 2 0 60 2 = 0; follows 0 6 0 0 2 = 0
            follows 0 4 0 0 1 = 119; follows 0 4 0 1 1 = 120; follows 0 4 0 2 1 = 0; follows 0 5 0 0 1 = 0
            follows 0 5 0 1 1 = 1; follows 0 5 0 60 1 = 60
            follows 0 0 1 0 0 = 0; follows 0 1 1 0 0 = 60; follows 0 0 1 0 2 = 0; follows 0 0 60 0 1 = 0
            follows 0 6 0 0 0 = 0; follows 0 1000 0 0 0 = 0; follows 0 11 0 0 2 = 120; follows 0 12 0 0 2 = 0
            """);
    }

    private static void canonAsked() {
        Script.test("A CANON: what stands at a PLACE is ASKED for TICK after TICK, below END of v, of v, as a, and THE "
                + "FOLLOWER, as b (they are two), until a RULE tells a FAULT (then nothing more is asked).", """
            tune 0 60:2 64:2 67:2; rule 0 0; truths 0 0 0 4 7; strong 2
            canon 0 0 2 0 0 = 4; traced 10 1 10 1 10 1
            canon 0 0 5 0 0 = NONE; traced 10 1
            canon 0 0 6 0 0 = NONE; traced; canon 0 0 60 0 0 = NONE; traced
            canon 0 0 0 1 0 = 0; traced 10 1
            canon 0 0 0 0 2 = 4; count 2 = 10
            school 1 0 3; rule 2 0; rule 3 2; seat 1 0 3; seat 1 1 2; seat 1 2 0
            canon 0 1 0 0 0 = 0; traced 11 10 1
            seat 1 1 0; canon 0 1 0 1 0 = 0; traced 11 10 1; seat 1 1 9; canon 0 1 5 0 0 = NONE; traced 11 10 1
            voice 1 0; canon 1 2 0 0 0 = NONE; tune 1 60:0; canon 1 2 0 0 0 = NONE; tune 1 R:8; canon 1 2 0 0 0 = NONE
            traced; drop 1; tune 1 60:1; canon 1 2 0 0 0 = 0; canon 1 2 1 0 0 = NONE
            """);
    }

    private static void canonOfMotionAndCadence() {
        Script.test("below END of v, of v, as a, and THE FOLLOWER, as b (they are two)",
                "rule 0 3; all 0 0; all 0 1", """
            tune 0 60:1 62:1 67:1 60:1
            canon 0 0 0 0 0 = NONE; canon 0 0 0 12 0 = NONE; canon 0 0 0 11 0 = 3; canon 0 0 1 0 0 = 3
            canon 0 0 1 -7 0 = NONE; canon 0 0 3 0 0 = NONE; canon 0 0 3 1 0 = 3
            truth 0 1 24 false; canon 0 0 1 -7 0 = 2
            """);
        Script.test("below END of v", "rule 0 3; all 0 0; all 0 1", "tune 0 60:8" + " 60:8".repeat(23), """
            end 0 = 192; canon 0 0 0 0 0 = NONE; count 2 = 768; canon 0 0 0 1 0 = 191; canon 0 0 60 1 2 = 191
            canons 0 0 0 0 = 1048575; canons 0 0 1 0 = 0; canons 0 0 1 2 = 0
            """);
    }

    private static void canon() {
        Script.test("The first TICK at which a CANON has a FAULT; NONE: it has none. k is 0 .. 60, by -60 .. 60.", """
            tune 0 60:1; rule 0 0
            canon 0 0 0 0 0 = 0; canon 0 0 0 60 0 = 0; canon 0 0 0 -60 0 = NONE; canon 0 0 0 -59 0 = 0
            canon 0 0 60 0 0 = NONE; canon 0 0 1 0 0 = NONE
            canon 0 0 61 0 0 = BAD; canon 0 0 -1 0 0 = BAD; canon 0 0 0 61 0 = BAD; canon 0 0 0 -61 0 = BAD
            canon 0 0 MAX 0 0 = BAD; canon 0 0 MIN 0 0 = BAD; canon 0 0 0 MAX 0 = BAD; canon 0 0 0 MIN 0 = BAD
            tune 0 60:8 60:8 60:8 60:8 60:8 60:8 60:8 60:8; canon 0 0 60 0 0 = 60; canon 0 0 59 0 0 = 60; strong 1
            canon 0 0 59 0 0 = 59; canon 0 0 60 0 2 = 60; canon 0 0 1 0 0 = 1
            """);
    }

    private static void canonFindings() {
        Script.test("BAD; NOTHING, BEYOND: v, gone through; NOTHING: nothing stands at r.", """
            canon 0 0 0 0 0 = NOTHING; rule 0 0; canon 0 0 0 0 0 = NOTHING; tune 0 60:1 60:1
            canon 0 0 0 0 0 = 0; count 2 = 2
            canon 0 1 61 0 0 = BAD; canon 6 0 0 0 0 = BAD; canon -1 0 0 0 0 = BAD; canon 0 16 0 0 0 = BAD
            canon 0 -1 0 0 0 = BAD; canon 0 0 0 0 3 = BAD; canon 0 0 0 0 -1 = BAD; canon 0 0 0 0 MAX = BAD
            canon MAX 0 0 0 0 = BAD; canon 0 MIN 0 0 0 = BAD; count 2 = 2
            canon 0 1 0 0 0 = NOTHING; traced; cut 0 1 1; canon 0 1 0 0 0 = BEYOND; canon 0 0 0 0 0 = BEYOND
            status = 2; tune 1 60:1; canon 1 0 0 0 0 = 0; voice 2 0; canon 2 1 0 0 0 = NOTHING; status = 1
            """);
    }

    private static void canons() {
        Script.test("Of the CANONS for k = 1 .. 20 those without FAULTS, bit k - 1 for k.", """
            tune 0 60:2 64:2 67:2; rule 0 0; truths 0 0 0 4 7; strong 2
            canons 0 0 0 0 = 1048572; count 2 = 26
            rule 1 0; strong 1; canons 0 1 0 0 = 1048544; canons 0 1 60 0 = 1048544
            rule 2 2; canons 0 2 0 0 = 1048575; school 3 0 0; canons 0 3 0 2 = 1048575; traced
            tune 1 60:8 60:8 60:4; canons 1 1 0 0 = 524288; tune 1 60:8 60:8 60:5; canons 1 1 0 0 = 0
            tune 1 60:1; canons 1 1 0 0 = 1048575; tune 1 60:2; canons 1 1 0 0 = 1048574
            voice 2 0; canons 2 1 0 0 = 1048575
            """);
    }

    private static void canonsFindings() {
        Script.test("BAD; NOTHING, BEYOND, NOTHING likewise.", """
            canons 0 0 0 0 = NOTHING; tune 0 60:1 60:1; canons 0 0 0 0 = NOTHING; rule 0 0; strong 1
            canons 1 0 0 0 = NOTHING
            canons 0 0 0 0 = 1048574; count 2 = 2
            canons 0 0 61 0 = BAD; canons 0 0 -61 0 = BAD; canons 0 0 MAX 0 = BAD; canons 0 0 MIN 0 = BAD
            canons 6 0 0 0 = BAD; canons -1 0 0 0 = BAD; canons 0 16 0 0 = BAD; canons 0 -1 0 0 = BAD
            canons 0 0 0 3 = BAD; canons 0 0 0 -1 = BAD; count 2 = 2
            canons 0 0 60 2 = 1048574; canons 0 0 -60 1 = 1048575; canons 0 1 0 0 = NOTHING; traced
            cut 0 1 1; canons 0 0 0 0 = BEYOND; canons 0 1 0 0 = BEYOND
            """);
    }

    private static void follows() {
        Script.test("The PITCH of THE FOLLOWER at TICK t (0 .. 1000); 0: it is SILENT. BAD; NOTHING; BEYOND.", """
            follows 0 0 0 0 0 = NOTHING; tune 0 60:1 60:1
            follows 0 0 0 0 0 = 60; follows 0 1000 0 0 0 = 0; follows 0 1000 60 60 2 = 0
            follows 0 -1 0 0 0 = BAD; follows 0 1001 0 0 0 = BAD; follows 0 MAX 0 0 0 = BAD; follows 0 MIN 0 0 0 = BAD
            follows 0 0 -1 0 0 = BAD; follows 0 0 61 0 0 = BAD; follows 0 0 0 -61 0 = BAD; follows 0 0 0 61 0 = BAD
            follows 0 0 0 0 -1 = BAD; follows 0 0 0 0 3 = BAD; follows 6 0 0 0 0 = BAD; follows -1 0 0 0 0 = BAD
            follows 0 60 60 0 2 = 60; follows 0 63 60 0 2 = 60; follows 0 64 60 0 2 = 0
            rule 0 0; canon 0 0 0 0 0 = 0; follows 0 0 0 0 0 = 60; count 2 = 2
            cut 0 1 1; follows 0 0 0 0 0 = BEYOND; follows 0 0 60 0 0 = BEYOND; follows 0 1001 0 0 0 = BAD; status = 2
            """);
    }
}
