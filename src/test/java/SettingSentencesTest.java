/** What the document says of SETTINGS, and promises 29 to 35, sentence by sentence. */
public final class SettingSentencesTest {
    /** A SCHOOL without SEATS refuses nothing. */
    private static final String FREE = "school 0 0 0\n";
    private static final String ONLY_WAY = FREE + "weight 1 0; weight 2 0\n";

    public static void main(String[] args) {
        given();
        aboveAndBelow();
        heard();
        fitsByKey();
        fitsByRules();
        fitsAtLaterTicks();
        behindNothing();
        bodiesAreNotTraced();
        weights();
        joined();
        least();
        dueAllows();
        dueComes();
        tuneWithDues();
        far();
        choice();
        steps();
        worked();
        set();
        setBad();
        setFindings();
        goOn();
        goOnNothing();
        goOnWritesLater();
        leastOfTheTune();
        many();
        row();
        spoil();
        check();
        checkFindings();
        Script.end(29, 35);
    }

    private static void given() {
        Script.test("A SETTING has the NOTES of a GIVEN VOICE as they were when it began", FREE, """
            tune 0 60:1 62:1; voice 1 2; set 1 0 0 true 60 64 0 = 2
            tune 0 90:8; goOn 1 = 1; drop 0; goOn 1 = 0; told 1 61:1 62:1
            tune 0 60:1 62:1 64:1; cut 0 0 2; set 0 0 0 true 63 66 1 = 1; note 0 0 1 1; cut 0 0 2; goOn 1 = 0
            number 0 0 0 = 64; number 0 0 1 = 65; number 0 1 2 = 1
            """);
    }

    private static void aboveAndBelow() {
        Script.test("PITCHES from low to high, above (not below the GIVEN one's) or below (not above it).", FREE, """
            tune 0 60:1; voice 1 1
            set 1 0 0 true 58 62 1 = 0; many = 3; told 1 60:1; set 1 0 0 false 58 62 1 = 0; many = 3; told 1 59:1
            set 1 0 0 true 60 60 1 = 0; set 1 0 0 false 60 60 1 = 0
            set 1 0 0 true 59 59 1 = NONE; set 1 0 0 false 61 61 1 = NONE
            set 1 0 0 true 45 60 1 = 0; many = 1; told 1 60:1; set 1 0 0 false 60 75 1 = 0; many = 1; told 1 60:1
            set 1 0 0 true 45 59 1 = NONE; set 1 0 0 false 61 75 1 = NONE
            tune 0 120:1; set 1 0 0 true 105 120 1 = 0; told 1 120:1; many = 1
            tune 0 1:1; set 1 0 0 false 1 16 1 = 0; told 1 1:1; many = 1
            """);
    }

    private static void heard() {
        Script.test("A NOTE of it is HEARD, if it is no REST and its LENGTH is not 0.", FREE, """
            tune 0 60:0 R:3 60:1 R:0; voice 1 4; set 1 0 0 true 60 64 4 = 0
            row 0 61 0 = NONE; row 1 61 0 = NONE; row 2 61 0 = 0; row 3 61 0 = NONE; many = 5
            """);
        Script.test("The tune has the GIVEN one's LENGTHS, a PITCH of these at each NOTE that is HEARD, else 0.", FREE,
                """
            tune 0 60:0 R:3 60:8 R:0; tune 1 50:1 51:1 52:1 53:1; set 1 0 0 true 60 64 4 = 0; told 1 R:0 R:3 61:8 R:0
            """);
    }

    private static void fitsByKey() {
        Script.test("KEY (12 truths, all true at first) has q modulo 12", FREE, """
            tune 0 60:1; voice 1 1; set 1 0 0 true 60 75 1 = 0; many = 16
            key 1; set 1 0 0 true 60 75 1 = 0; many = 2; told 1 72:1; key 2048; set 1 0 0 true 60 75 1 = 0; many = 1
            told 1 71:1; set 1 0 0 true 72 75 1 = NONE; key 8; set 1 0 0 true 60 75 1 = 0; many = 2; told 1 63:1
            key 0; set 1 0 0 true 60 75 1 = NONE
            """);
    }

    private static void fitsByRules() {
        Script.test("at no TICK of that NOTE a RULE of what stands at the PLACE that LISTENS to two tells a FAULT of "
                + "the GIVEN one and the tune", """
            rule 0 0; voice 1 2
            tune 0 R:1 60:3; set 1 0 0 true 60 64 2 = 0; tune 0 R:1 60:4; set 1 0 0 true 60 64 2 = NONE
            tune 0 R:4 60:1; set 1 0 0 true 60 64 2 = NONE; tune 0 R:5 60:3; set 1 0 0 true 60 64 2 = 0
            truths 0 0 3; tune 0 R:1 60:4; set 1 0 0 true 60 64 2 = 0; many = 1; told 1 R:1 63:4
            voice 1 1; tune 0 60:1; set 1 0 0 true 60 64 1 = 0; told 1 63:1
            rule 0 2; all 0 2; set 1 0 0 true 60 64 1 = 0; many = 5
            school 2 0 8; rule 3 0; seat 2 7 3; set 1 0 2 true 60 64 1 = NONE; truths 3 0 4; set 1 0 2 true 60 64 1 = 0
            told 1 64:1; seat 2 0 3; rule 4 0; truths 4 0 3; seat 2 3 4; set 1 0 2 true 60 64 1 = NONE
            """);
        Script.test("which has q at that NOTE and p right ahead of it", "rule 0 1; all 0 0; truths 0 1 29; voice 1 2",
                """
            tune 0 60:1 62:2; set 1 0 0 true 60 70 2 = 0; told 1 66:1 67:2; many = 6
            row 0 66 0 = 0; row 0 65 0 = FAR; row 0 64 0 = 1; row 0 61 0 = 4; row 0 67 0 = FAR; row 0 68 0 = FAR
            """);
        Script.test("at no TICK of that NOTE", "rule 0 3; all 0 0; all 0 1; voice 1 4", """
            tune 0 60:1 62:2 R:1 60:0; set 1 0 0 true 60 75 4 = 0; many = 32; told 1 61:1 62:2 R:1 R:0
            set 1 0 0 true 63 74 4 = 0; many = 12; set 1 0 0 true 63 73 4 = NONE
            """);
    }

    private static void fitsAtLaterTicks() {
        Script.test("which has q at that NOTE and p right ahead of it", "rule 0 1; all 0 0; voice 1 3", """
            tune 0 62:2 62:2 62:2; set 1 0 0 true 62 64 3 = 0; many = 3; told 1 63:2 63:2 63:2
            tune 0 62:8 R:1 64:8; set 1 0 0 true 62 66 3 = 0; many = 15
            """);
        Script.test("at no TICK of that NOTE", "rule 0 0; voice 1 2; tune 0 R:5 60:3; set 1 0 0 true 60 64 2 = 0; many "
                + "= 5");
        Script.test("at no TICK of that NOTE", "rule 0 3; all 0 0; all 0 1; voice 1 3", """
            tune 0 60:2 62:2 64:0; set 1 0 0 true 60 75 3 = 0; many = 32; told 1 61:2 62:2 R:0
            tune 0 60:2 62:2 64:1; set 1 0 0 true 60 75 3 = 0; many = 224
            """);
        Script.test("a RULE of what stands at the PLACE that LISTENS to two", "rule 0 0; strong 1; voice 1 1", """
            tune 0 60:1; tune 5 60:8; faults 0 = 1; trace 0 = 10; set 1 0 0 true 60 64 1 = NONE
            truths 0 0 2; faults 0 = 1; set 1 0 0 true 60 64 1 = 0; told 1 62:1; many = 1; faults 0 = 1; check = 1
            rule 1 2; all 1 2; faults 1 = 0; set 1 0 1 true 60 64 1 = 0; many = 5; check = 1
            """);
    }

    private static void behindNothing() {
        Script.test("(nothing: both are SILENT there)", "rule 0 1; all 0 0; voice 1 3", """
            tune 0 60:1 62:1; set 1 0 0 true 62 64 3 = NONE; row 0 62 0 = FAR; row 0 63 0 = FAR
            tune 0 60:1 R:1 62:1; set 1 0 0 true 62 64 3 = 0; many = 9
            tune 0 60:1 R:0 62:1; set 1 0 0 true 62 64 3 = NONE
            tune 0 62:1 62:1; set 1 0 0 true 62 64 3 = 0; many = 3; row 0 62 0 = 3; row 0 63 0 = 1
            tune 0 R:4 62:1; set 1 0 0 true 62 64 3 = 0; many = 3
            """);
    }

    private static void bodiesAreNotTraced() {
        Script.test("These bodies are not in THE TRACE.", """
            tune 0 60:4; voice 1 1; rule 0 0; all 0 0; faults 0 = 0; traced 10 10 10 10
            set 1 0 0 true 60 64 0 = 1; goOn 1 = 0; check = 1; traced 10 10 10 10
            set 1 0 0 true 60 64 1 = 0; traced 10 10 10 10
            canon 0 0 0 0 0 = NONE; traced 10 1 10 1 10 1 10 1
            """);
    }

    private static void weights() {
        Script.test("WEIGHTS, 1 each at first: 0 for each half step above 2 from a NOTE that is HEARD to the next one "
                + "JOINED to it", FREE, "weight 1 9; weight 2 0; voice 1 2", """
            tune 0 60:1 75:1; set 1 0 0 true 60 75 2 = 0
            row 0 74 0 = 0; row 0 73 0 = 0; row 0 72 0 = 1; row 0 71 0 = 2; row 0 60 0 = 13; row 0 75 0 = 9
            weight 0 9; set 1 0 0 true 60 75 2 = 0; row 0 73 0 = 0; row 0 72 0 = 9; row 0 60 0 = 117
            tune 0 75:1 60:1; set 1 0 0 false 60 75 2 = 0
            row 0 61 0 = 0; row 0 62 0 = 0; row 0 63 0 = 9; row 0 75 0 = 117; row 0 60 0 = 9
            weight 0 0; set 1 0 0 false 60 75 2 = 0; row 0 75 0 = 0; row 0 63 0 = 0
            """);
        Script.test("1 if these two have the same PITCH", FREE, "weight 2 0; voice 1 2", """
            tune 0 60:1 75:1; set 1 0 0 true 60 75 2 = 0; row 0 75 0 = 1; row 0 74 0 = 0
            weight 1 7; set 1 0 0 true 60 75 2 = 0; row 0 75 0 = 7; row 0 75 1 = 7; row 0 75 2 = 7; row 0 74 0 = 0
            weight 1 0; set 1 0 0 true 60 75 2 = 0; row 0 75 0 = 0
            """);
        Script.test("2 of a NOTE that is HEARD and is at low or high.", FREE, "voice 1 1; tune 0 60:1", """
            set 1 0 0 true 60 64 1 = 0; row 0 60 0 = 1; row 0 61 0 = 0; row 0 63 0 = 0; row 0 64 0 = 1; row 0 64 2 = 1
            weight 2 9; set 1 0 0 true 60 64 1 = 0; row 0 60 0 = 9; row 0 61 0 = 0; row 0 63 0 = 0; row 0 64 0 = 9
            set 1 0 0 true 60 60 1 = 0; row 0 60 0 = 9; least = 9; set 1 0 0 true 60 61 1 = 0; least = 9
            weight 2 0; set 1 0 0 true 60 60 1 = 0; row 0 60 0 = 0
            """);
    }

    private static void joined() {
        Script.test("to the next one JOINED to it (that begins at the TICK behind it)", FREE, "weight 2 0; voice 1 3",
                """
            tune 0 60:2 75:1; set 1 0 0 true 60 75 2 = 0; row 0 60 0 = 13; row 0 60 1 = FAR
            tune 0 60:1 R:0 75:1; set 1 0 0 true 60 75 3 = 0; row 0 60 0 = 13; row 0 60 1 = FAR
            tune 0 60:1 61:0 75:1; set 1 0 0 true 60 75 3 = 0; row 0 60 0 = 13; row 0 60 1 = FAR
            tune 0 60:1 R:1 75:1; set 1 0 0 true 60 75 3 = 0; row 0 60 0 = 0; row 0 60 1 = 0; row 0 60 2 = 0
            row 0 75 0 = 0
            """);
    }

    private static void least() {
        Script.test("LEAST of a NOTE i that is HEARD, a PITCH p, a DUE d (0 none, 1 down, 2 up): the WEIGHT 2, if p is "
                + "low or high", FREE, """
            tune 0 62:1; voice 1 1; key 16; weight 2 6; set 1 0 0 true 60 64 1 = 0
            row 0 60 0 = 6; row 0 60 1 = 6; row 0 60 2 = 6; row 0 61 0 = 0; row 0 61 1 = 0; row 0 63 2 = 0
            row 0 64 2 = 6
            """);
        Script.test("j being the next NOTE that is HEARD: nothing, if there is none", FREE, """
            tune 0 60:1 R:1 61:0; voice 1 3; weight 2 5; set 1 0 0 true 60 63 3 = 0
            row 0 60 0 = 5; row 0 60 1 = 5; row 0 60 2 = 5; row 0 61 0 = 0; row 0 61 1 = 0; row 0 62 2 = 0
            row 0 63 2 = 5
            """);
        Script.test("if j is not JOINED to i, the lowest LEAST of j, q, DUE 0 of all q that FIT at j behind nothing",
                FREE, """
            tune 0 60:1 R:1 62:1 64:1; voice 1 4; weight 1 3; set 1 0 0 true 60 65 4 = 0
            row 2 62 0 = 0; row 2 64 0 = 1; row 2 65 0 = 1; row 2 61 0 = 1; row 0 62 0 = 0; row 0 60 0 = 1
            row 0 65 2 = 1
            key 16; set 1 0 0 true 60 65 4 = 0; row 2 64 0 = 3; row 0 62 0 = 3; row 0 60 0 = 4; row 0 62 1 = 3
            row 0 62 2 = 3
            """);
        Script.test("else the lowest sum of the WEIGHTS 0, 1 for p and q, and LEAST of j, q, e of all q that FIT at j "
                + "behind p and that d allows", FREE, """
            tune 0 60:1 62:1; voice 1 2; set 1 0 0 true 60 64 2 = 0
            row 1 60 0 = 1; row 1 61 0 = 0; row 1 62 0 = 0; row 1 63 0 = 0; row 1 64 0 = 1
            row 0 60 0 = 1; row 0 61 0 = 0; row 0 62 0 = 0; row 0 63 0 = 0; row 0 64 0 = 1
            row 0 60 1 = FAR; row 0 61 1 = FAR; row 0 62 1 = 1; row 0 63 1 = 0; row 0 64 1 = 1
            row 0 60 2 = 1; row 0 61 2 = 0; row 0 62 2 = 0; row 0 63 2 = 1; row 0 64 2 = 3
            """);
    }

    private static void dueAllows() {
        Script.test("q is p (then e is d), or d is 0, or q is 1 or 2 half steps from p in d's way", ONLY_WAY,
                "voice 1 2", """
            tune 0 60:1 75:1; weight 1 4; set 1 0 0 true 60 75 2 = 0
            row 0 75 0 = 4; row 0 75 1 = 4; row 0 75 2 = 4
            row 0 74 0 = 0; row 0 74 1 = FAR; row 0 74 2 = 0; row 0 73 1 = FAR; row 0 73 2 = 0
            row 0 72 0 = 1; row 0 72 1 = FAR; row 0 72 2 = FAR; row 0 60 0 = 13; row 0 60 2 = FAR
            tune 0 75:1 60:1; set 1 0 0 false 60 75 2 = 0
            row 0 60 0 = 4; row 0 60 1 = 4; row 0 60 2 = 4
            row 0 61 0 = 0; row 0 61 1 = 0; row 0 61 2 = FAR; row 0 62 1 = 0; row 0 62 2 = FAR
            row 0 63 0 = 1; row 0 63 1 = FAR; row 0 63 2 = FAR
            """);
        Script.test("q is p (then e is d)", FREE, "weight 2 0; key 9; voice 1 3", """
            tune 0 60:1 60:1 63:1; set 1 0 0 true 60 63 3 = 0
            row 1 60 0 = 1; row 1 60 1 = FAR; row 1 60 2 = FAR; row 1 63 0 = 1; row 1 63 1 = 1; row 1 63 2 = 1
            row 0 60 0 = 2; row 0 60 1 = FAR; row 0 60 2 = FAR; row 0 63 0 = 2; row 0 63 1 = 2; row 0 63 2 = 2
            """);
    }

    private static void dueComes() {
        Script.test("(then e is 0, or, if in what stands at the PLACE there is a LEAP whose ANSWERED of the DISTANCE "
                + "of p and q (24, if it is greater) is true, 1 if q is above p, else 2)", ONLY_WAY, "voice 1 3", """
            tune 0 60:1 62:1 75:1; set 1 0 0 true 60 75 3 = 0; row 1 62 0 = 11; row 1 62 1 = FAR; row 0 60 2 = 11
            rule 0 2; truths 0 2 2; set 1 0 0 true 60 75 3 = 0; row 0 60 2 = FAR
            rule 0 2; truths 0 2 1 3 24; set 1 0 0 true 60 75 3 = 0; row 0 60 2 = 11
            """);
        Script.test("1 if q is above p, else 2)", FREE, "rule 0 2; rule 3 2; school 2 0 8; seat 2 7 3; weight 2 0", """
            key 26; voice 1 3; tune 0 60:1 75:1 76:1; set 1 0 0 true 61 76 3 = 0
            row 1 75 0 = 0; row 1 75 1 = FAR; row 1 75 2 = 0; row 1 76 1 = 1; row 0 61 0 = 12
            truths 0 2 14; set 1 0 0 true 61 76 3 = 0; row 0 61 0 = 14
            set 1 0 2 true 61 76 3 = 0; row 0 61 0 = 12; truths 3 2 14; set 1 0 2 true 61 76 3 = 0; row 0 61 0 = 14
            key 4095; tune 0 76:1 62:1 61:1; set 1 0 2 false 61 76 3 = 0
            row 1 62 0 = 0; row 1 62 1 = 0; row 1 62 2 = FAR; row 0 76 0 = 14; rule 3 2; set 1 0 2 false 61 76 3 = 0
            row 0 76 0 = 14; set 1 0 3 false 61 76 3 = 0; row 0 76 0 = 12
            """);
    }

    private static void tuneWithDues() {
        Script.test("goes on by the CHOICES", "rule 0 2; truths 0 2 7; key 161; weight 0 0; weight 1 9; weight 2 0", """
            tune 0 60:1 67:1 60:1 60:1; voice 1 4; set 1 0 0 true 60 70 4 = 0; least = 0; told 1 60:1 67:1 65:1 60:1
            tune 0 60:1 67:1 67:1 60:1 60:1; voice 1 5; set 1 0 0 true 60 70 5 = 0; least = 9
            told 1 60:1 67:1 67:1 65:1 60:1; check = 1
            key 177; tune 0 60:1 67:1 60:1 60:1; set 1 0 0 true 60 70 4 = 0; least = 0; number 1 0 1 = 67
            number 1 0 2 = 65
            """);
        Script.test("goes on by the CHOICES", "school 0 0 2; rule 1 0; truths 1 0 0; rule 2 2; truths 2 2 7; seat 0 0 "
                + "1", """
            seat 0 1 2; strong 16; key 133; weight 0 0; weight 1 9; weight 2 0
            tune 0 67:1 60:1 67:1 67:1; voice 1 4; set 1 0 0 false 57 67 4 = 0; least = 0; told 1 67:1 60:1 62:1 60:1
            tune 0 67:1 60:1 60:1 67:1 67:1; voice 1 5; set 1 0 0 false 57 67 5 = 0; least = 9
            told 1 67:1 60:1 60:1 62:1 60:1; check = 1
            """);
    }

    private static void far() {
        Script.test("if that is FAR there is no tune",
                "rule 0 0; truths 0 0 0; strong 1; weight 0 9; weight 1 9; weight 2 9", """
            tune 0 60:1 71:1 60:1 71:1 71:1; voice 1 5; set 1 0 0 true 60 71 5 = 0; least = 297; many = 1
            told 1 60:1 71:1 60:1 71:1 71:1
            """);
        Script.test("Without such a q: FAR, 1000000000; what is more than FAR is FAR.", FREE, "weight 2 9; voice 1 2",
                """
            tune 0 60:1 60:1; key 0; set 1 0 0 true 60 64 2 = NONE
            row 1 60 0 = 9; row 1 61 0 = 0; row 0 60 0 = 1000000000; row 0 61 1 = 1000000000; row 0 64 2 = 1000000000
            check = 1
            key 1; set 1 0 0 true 60 60 2 = 0; least = 19; spoil 1 60 0 FAR = 9; check = 0
            spoil 0 60 0 FAR = 19; check = 0; spoil 1 60 0 999999999 = FAR; check = 0; spoil 1 60 0 9 = 999999999
            spoil 0 60 0 19 = FAR; check = 1
            """);
    }

    private static void choice() {
        Script.test("THE CHOICE there is the lowest q that gives this.", ONLY_WAY, "weight 0 0; voice 1 3", """
            tune 0 60:1 61:1 62:1; set 1 0 0 true 59 70 3 = 0; told 1 60:1 61:1 62:1
            set 1 0 0 false 50 60 3 = 0; told 1 50:1 50:1 50:1
            weight 1 1; set 1 0 0 false 50 60 3 = 0; told 1 50:1 51:1 50:1
            tune 0 60:1 R:1 62:1; set 1 0 0 true 55 70 3 = 0; told 1 60:1 R:1 62:1
            """);
    }

    private static void steps() {
        Script.test("A STEP works a NOTE of the SETTING, from the last one to the first: its LEASTS and CHOICES, with "
                + "all as it is then.", FREE, """
            tune 0 60:1 62:1; voice 1 2; set 1 0 0 true 60 64 0 = 2; row 0 60 0 = NONE; row 1 60 0 = NONE; count 5 = 0
            goOn 1 = 1; row 0 60 0 = NONE; row 1 60 0 = 1; count 5 = 1
            weight 2 9; key 16; goOn 1 = 0; row 1 60 0 = 1; row 1 64 0 = 1; row 0 64 0 = 11; row 0 60 0 = 12; least = 11
            told 1 64:1 64:1; count 5 = 2; many = 1
            """);
        Script.test("with all as it is then.", "school 0 0 1; rule 1 0; strong 1; voice 1 2", """
            tune 0 60:1 62:1; set 1 0 0 true 60 67 1 = 1; seat 0 0 1; truths 1 0 5; goOn 1 = 0; many = 1
            told 1 65:1 67:1
            seat 0 0 9; set 1 0 0 true 60 67 2 = 0; many = 48
            set 1 0 0 true 60 67 1 = 1; rule 0 3; all 0 0; all 0 1; goOn 1 = 0; told 1 61:1 62:1; many = 8
            """);
    }

    private static void worked() {
        Script.test("Behind the last STEP it is WORKED: the WEIGHT of the tune is the lowest LEAST of the first NOTE "
                + "that is HEARD, q, DUE 0 of all q that FIT there behind nothing", FREE, """
            tune 0 R:1 62:1 64:1; voice 1 3; set 1 0 0 true 60 64 2 = 1; least = NONE; many = NONE; check = NONE
            goOn 1 = 0; least = 1; row 1 60 0 = 4; row 1 62 0 = 1; row 1 63 0 = 1; told 1 R:1 62:1 64:1
            key 8; set 1 0 0 true 60 64 3 = NONE; key 24; set 1 0 0 true 60 64 3 = 0; least = 1; told 1 R:1 63:1 64:1
            """);
        Script.test("(0, if none is HEARD; without NOTES it is WORKED when it begins)", FREE, """
            tune 0 R:2 61:0; tune 1 50:5 51:6; key 0; set 1 0 0 true 60 60 1 = 1; least = NONE; goOn 1 = 0; least = 0
            many = 1; told 1 R:2 R:0; check = 1; count 5 = 2
            voice 0 0; set 1 0 9 true 60 60 0 = 0; least = 0; many = 1; told 1 R:2 R:0; goOn 0 = STATE; count 5 = 0
            drop 1; set 1 0 9 true 60 60 30 = NOTHING; least = 0; voice 1 0; goOn 0 = 0; check = NOTHING
            """);
        Script.test("if that is FAR there is no tune; else it has the lowest such q, and goes on by the CHOICES.",
                FREE, """
            tune 0 60:1 62:1 64:1; voice 1 3; set 1 0 0 true 60 63 3 = NONE; told 1 R:1 R:1 R:1; least = NONE; many = 0
            set 1 0 0 true 60 64 3 = 0; least = 1; told 1 61:1 62:1 64:1; set 1 0 0 true 60 75 3 = 0
            told 1 61:1 62:1 64:1
            least = 0
            """);
    }

    private static void set() {
        Script.test("A SETTING begins, in place of the one that was: a tune for VOICE v against g by what stands at r; "
                + "then as goOn(n).", FREE, """
            tune 0 60:1 62:1; voice 1 2; tune 5 50:1; set 1 0 0 true 60 64 1 = 1; row 1 60 0 = 1
            set 5 5 0 false 40 50 0 = 1; row 0 60 0 = BAD; row 0 40 0 = NONE; count 5 = 0; least = NONE
            goOn 1 = 0; told 5 41:1; told 1 R:1 R:1
            set 1 0 15 true 60 64 0 = 2; rule 15 0; all 15 0; goOn 2 = 0; told 1 61:1 62:1; goOn 0 = STATE
            set 1 0 0 true 50 61 30 = NONE; goOn 0 = STATE; set 1 0 0 true 60 64 30 = 0; least = 0
            """);
    }

    private static void setBad() {
        Script.test("BAD: v, g, r, n; low, high are not 1 .. 120, low above high, or high - low above 15", FREE, """
            tune 0 60:1; voice 1 1; set 1 0 0 true 60 64 0 = 1
            set 6 0 0 true 60 64 1 = BAD; set -1 0 0 true 60 64 1 = BAD; set MAX 0 0 true 60 64 1 = BAD
            set 1 6 0 true 60 64 1 = BAD; set 1 -1 0 true 60 64 1 = BAD; set 1 MIN 0 true 60 64 1 = BAD
            set 1 0 16 true 60 64 1 = BAD; set 1 0 -1 true 60 64 1 = BAD; set 1 0 MAX true 60 64 1 = BAD
            set 1 0 0 true 60 64 31 = BAD; set 1 0 0 true 60 64 -1 = BAD; set 1 0 0 true 60 64 MAX = BAD
            set 1 0 0 true 60 64 MIN = BAD
            set 1 0 0 true 0 10 1 = BAD; set 1 0 0 true 110 121 1 = BAD; set 1 0 0 true 121 121 1 = BAD
            set 1 0 0 true 0 0 1 = BAD; set 1 0 0 true 61 60 1 = BAD; set 1 0 0 true 60 76 1 = BAD
            set 1 0 0 true MIN MAX 1 = BAD; set 1 0 0 true MAX MIN 1 = BAD; set 1 0 0 true 120 MIN 1 = BAD
            set 1 0 0 true MIN 1 1 = BAD; set 1 0 0 true 1 MAX 1 = BAD; set 1 0 0 true 1 17 1 = BAD
            count 5 = 0; row 0 64 0 = NONE; row 0 65 0 = BAD; goOn 1 = 0; told 1 61:1
            set 1 0 0 true 60 75 30 = 0; set 1 0 0 false 1 16 30 = 0; set 1 0 0 true 105 120 30 = 0
            set 1 0 0 false 1 1 30 = 0; told 1 1:1; set 1 0 0 true 120 120 30 = 0; told 1 120:1
            """);
    }

    private static void setFindings() {
        Script.test("NOTHING, BEYOND: g, gone through (the SETTING that was stays then).", FREE, """
            set 1 5 0 true 50 52 0 = NOTHING; goOn 0 = STATE
            tune 0 60:1 62:1; voice 1 2; set 1 0 0 true 60 64 1 = 1
            set 1 5 0 true 50 52 30 = NOTHING; voice 5 2; cut 5 1 1; set 1 5 9 true 50 52 30 = BEYOND; status = 2
            count 5 = 1; row 1 60 0 = 1; row 1 50 0 = BAD; goOn 1 = 0; told 1 61:1 62:1; least = 0
            set 1 5 0 true 50 52 30 = BEYOND; least = 0; many = 15; goOn 0 = STATE
            """);
    }

    private static void goOn() {
        Script.test("Up to n STEPS (0 .. 30) of the SETTING; if it is WORKED then, the tune is written: NOTES 0, 1, .. "
                + "of VOICE v become its: 0; NONE, if there is none; else how many STEPS are left.", FREE, """
            tune 0 60:1 62:1 64:1; tune 1 50:1 51:1 52:1 53:7; set 1 0 0 true 60 75 0 = 3
            goOn 0 = 3; goOn 1 = 2; goOn 0 = 2; count 5 = 1; told 1 50:1 51:1 52:1 53:7
            goOn 31 = BAD; goOn -1 = BAD; goOn MAX = BAD; goOn MIN = BAD; count 5 = 1
            goOn 30 = 0; told 1 61:1 62:1 64:1 53:7; count 5 = 3
            set 1 0 0 true 60 75 2 = 1; goOn 1 = 0; set 1 0 0 true 60 75 3 = 0; set 1 0 0 true 60 75 30 = 0
            set 1 0 0 true 50 60 2 = 1; goOn 1 = NONE; status = 0; count 5 = 3; told 1 61:1 62:1 64:1 53:7
            """);
        Script.test("STATE: there is no SETTING, or its tune was written, or it was told that there is none", FREE, """
            goOn 0 = STATE; goOn 30 = STATE; goOn 31 = BAD; tune 0 60:1; voice 1 1
            set 1 0 0 true 60 64 1 = 0; goOn 0 = STATE; goOn 1 = STATE; status = 7; undo; goOn 1 = STATE
            set 1 0 0 true 50 54 1 = NONE; goOn 0 = STATE; goOn 1 = STATE; set 1 0 0 true 50 54 0 = 1; goOn 1 = NONE
            goOn 1 = STATE; set 1 0 0 true 60 64 0 = 1; goOn 0 = 1; goOn 1 = 0
            """);
    }

    private static void goOnNothing() {
        Script.test("NOTHING: nothing stands at its PLACE (ahead of each STEP; those ahead of it are done)", FREE, """
            tune 0 60:1 62:1; voice 1 2
            set 1 0 9 true 60 64 0 = 2; set 1 0 9 true 60 64 1 = NOTHING; count 5 = 0; goOn 0 = 2; goOn 30 = NOTHING
            rule 9 2; goOn 1 = 1; clear 9; goOn 1 = NOTHING; status = 1; count 5 = 1; row 1 60 0 = 1; goOn 0 = 1
            status = 0
            school 9 0 0; goOn 1 = 0; told 1 61:1 62:1
            """);
    }

    private static void goOnWritesLater() {
        Script.test("NOTHING, BEYOND: v is MISSING, a ROW of it is too short (it is WORKED, and v as it was; goOn() "
                + "writes later).", FREE, """
            tune 0 60:1 62:1; set 1 0 0 true 60 64 2 = NOTHING; least = 0; many = 15; count 5 = 2; size 1 0 = NOTHING
            goOn 0 = NOTHING; goOn 30 = NOTHING; count 5 = 2
            tune 1 50:8; goOn 0 = BEYOND; told 1 50:8; voice 1 0; goOn 0 = BEYOND
            tune 1 50:8 51:8; cut 1 0 1; goOn 0 = BEYOND; number 1 0 0 = 50; number 1 1 0 = 8
            tune 1 50:8 51:8; cut 1 1 1; goOn 30 = BEYOND; number 1 0 0 = 50; number 1 1 0 = 8; number 1 0 1 = 51
            check = 1; clear 0; tune 1 50:8 51:8; goOn 30 = 0; told 1 61:1 62:1; goOn 0 = STATE
            """);
        Script.test("goOn() writes later", FREE, """
            tune 0 60:1 62:1; set 1 0 0 true 60 64 1 = 1; goOn 1 = NOTHING; key 0; weight 2 9; tune 0 1:1; voice 1 2
            goOn 0 = 0; told 1 61:1 62:1; set 1 2 0 true 60 64 1 = NOTHING; goOn 0 = STATE
            """);
    }

    private static void leastOfTheTune() {
        Script.test("The WEIGHT of the tune. NONE: the SETTING is not WORKED, or there is no tune.", FREE, """
            least = NONE; tune 0 60:1; voice 1 1; set 1 0 0 true 60 60 0 = 1; least = NONE; goOn 1 = 0; least = 1
            weight 2 9; least = 1; spoil 0 60 0 5; least = 1; set 1 0 0 true 60 60 1 = 0; least = 9
            set 1 0 0 true 59 59 1 = NONE; least = NONE; drop 1; set 1 0 0 true 60 61 1 = NOTHING; least = 9
            """);
    }

    private static void many() {
        String nine = "60:1" + " 60:1".repeat(8);
        String full = "60:1" + " 60:1".repeat(23);
        Script.test("(of each NOTE, PITCH, DUE as many as of all q there together, 1 without a next NOTE; 1000000000, "
                + "if there are more, each time)", FREE, "tune 0 " + nine, "voice 1 24", """
            set 1 0 0 true 60 68 30 = 0; many = 387420489; set 1 0 0 true 60 69 30 = 0; many = 1000000000
            set 1 0 0 true 60 70 30 = 0; many = 1000000000; set 1 0 0 true 60 60 30 = 0; many = 1
            """, "tune 0 " + full, "set 1 0 0 true 60 75 30 = 0; many = 1000000000; check = 1",
                "set 1 0 0 true 60 61 30 = 0; many = 16777216",
                "tune 0 60:1 R:1 60:1; set 1 0 0 true 60 64 30 = 0; many = 25");
        Script.test("How many tunes the SETTING allows", "rule 0 2; truths 0 2 4; key 17; voice 1 3", """
            tune 0 60:1 60:1 60:1; set 1 0 0 true 60 64 3 = 0; many = 6; rule 0 2; set 1 0 0 true 60 64 3 = 0; many = 8
            """);
        Script.test("NONE: it is not WORKED.", FREE, """
            many = NONE; tune 0 60:1; voice 1 1; set 1 0 0 true 60 64 0 = 1; many = NONE; goOn 1 = 0; many = 5
            set 1 0 0 true 50 54 1 = NONE; many = 0; key 0; many = 0; voice 0 0; set 1 0 0 true 60 64 0 = 0; many = 1
            """);
    }

    private static void row() {
        Script.test("LEAST of NOTE i, p, d. BAD: p is not low .. high, d not 0 .. 2; NONE: there is no SETTING, no "
                + "such NOTE, it is not HEARD, or was not worked yet. (Without a SETTING ahead of BAD.)", FREE, """
            row 0 60 0 = NONE; row 0 0 0 = NONE; row 0 60 3 = NONE; row MIN MAX MIN = NONE
            tune 0 60:1 R:1 62:1; voice 1 3; set 1 0 0 true 60 64 1 = 2
            row 0 60 0 = NONE; row 1 60 0 = NONE; row 2 60 0 = 1; row 2 64 2 = 1; row 2 61 1 = 0
            row 2 59 0 = BAD; row 2 65 0 = BAD; row 2 MAX 0 = BAD; row 2 MIN 0 = BAD
            row 2 60 3 = BAD; row 2 60 -1 = BAD; row 2 60 MAX = BAD; row 2 60 MIN = BAD
            row 3 60 0 = NONE; row -1 60 0 = NONE; row MAX 60 0 = NONE; row MIN 60 0 = NONE
            row 3 59 0 = BAD; row 0 60 3 = BAD; row -1 65 0 = BAD
            goOn 2 = 0; row 0 60 0 = 1; row 1 60 0 = NONE; row 1 59 0 = BAD; row 3 60 0 = NONE; row -1 60 0 = NONE
            tune 0 60:1 61:1; cut 0 0 1; set 1 0 0 true 60 64 1 = 0; row 0 60 0 = 1; row 1 60 0 = NONE
            row 1 61 0 = NONE
            """);
    }

    private static void spoil() {
        Script.test("That LEAST becomes w (0 .. 1000000000): what it was. BAD: also w; NONE likewise, or the SETTING "
                + "is not WORKED. (CHOICES, WEIGHT and many() stay.)", FREE, """
            spoil 0 60 0 0 = NONE; spoil 0 0 9 -1 = NONE
            tune 0 60:1 R:1 62:1; set 1 0 0 true 60 64 2 = 1
            spoil 2 60 0 5 = NONE; spoil 2 60 0 -1 = BAD; spoil 2 59 0 5 = BAD; spoil 2 60 3 5 = BAD; row 2 60 0 = 1
            goOn 1 = NOTHING; spoil 2 60 0 0 = 1; spoil 2 60 0 1000000000 = 0; row 2 60 0 = 1000000000
            spoil 2 60 0 1000000001 = BAD; spoil 2 60 0 -1 = BAD; spoil 2 60 0 MAX = BAD; spoil 2 60 0 MIN = BAD
            row 2 60 0 = 1000000000; row 2 60 1 = 1; row 2 61 0 = 0
            spoil 2 59 0 0 = BAD; spoil 2 65 0 0 = BAD; spoil 2 60 -1 0 = BAD; spoil 2 60 3 0 = BAD
            spoil 9 59 0 0 = BAD
            spoil 1 60 0 0 = NONE; spoil 3 60 0 0 = NONE; spoil -1 60 0 0 = NONE; spoil MAX 60 0 0 = NONE
            spoil MIN 60 0 0 = NONE; spoil 1 60 0 -1 = BAD
            spoil 0 61 0 FAR = 0; spoil 0 64 0 0 = 1; spoil 2 62 0 FAR = 0; least = 0; many = 15
            voice 1 3; goOn 0 = 0; told 1 61:1 R:1 62:1
            """);
    }

    private static void check() {
        Script.test("Whether each LEAST of the SETTING is what is told of it, by those of the next NOTE that is HEARD "
                + "as they "
                + "are", FREE, "tune 0 60:1 62:1 R:1 64:1; voice 1 4; set 1 0 0 true 60 68 4 = 0; check = 1", """
            spoil 3 60 0 2 = 1; check = 0; spoil 3 60 0 1 = 2; check = 1; spoil 3 68 2 2 = 1; check = 0
            spoil 3 68 2 1 = 2; check = 1; spoil 0 60 0 0 = 1; check = 0; spoil 0 60 0 1 = 0; check = 1
            spoil 0 68 2 FAR; check = 0; status = 0
            """);
        Script.test("by those of the next NOTE that is HEARD as they are", FREE, """
            tune 0 60:1 R:1 64:1 61:0; voice 1 4; set 1 0 0 true 60 64 4 = 0; check = 1
            row 0 61 0 = 1; row 2 61 0 = 0; spoil 2 64 0 0 = 1; check = 0
            spoil 0 61 0 0 = 1; spoil 2 64 0 1 = 0; check = 0; spoil 0 61 0 1 = 0; check = 1
            """);
        Script.test("and the WEIGHT of the tune likewise (with all as it is now): 1, 0.", FREE,
                "tune 0 60:1; voice 1 1", """
            set 1 0 0 true 60 60 1 = 0; check = 1; weight 2 4; check = 0
            spoil 0 60 0 4 = 1; spoil 0 60 1 4 = 1; spoil 0 60 2 4 = 1; check = 0; least = 1; weight 2 1; check = 0
            set 1 0 0 true 60 62 1 = 0; check = 1; key 0; check = 0; key 4095; check = 1; rule 0 0; check = 0
            truths 0 0 0
            check = 0; all 0 0; check = 1; truth 0 0 2 false; check = 1; truth 0 0 1 false; check = 0
            strong 16; check = 0
            """);
    }

    private static void checkFindings() {
        Script.test("NONE: it is not WORKED. NOTHING: nothing stands at its PLACE.", FREE, """
            check = NONE; status = 0; tune 0 60:1; voice 1 1; set 1 0 0 true 60 64 0 = 1; check = NONE; clear 0
            check = NONE; status = 0; rule 0 2; goOn 1 = 0; check = 1; clear 0; check = NOTHING; status = 1
            rule 0 2; check = 1; status = 0; set 1 0 0 true 50 54 1 = NONE; check = 1; clear 0; check = NOTHING
            """);
    }
}
