/** What the document says of PLACES, and promises 13 to 22, sentence by sentence. */
public final class RuleSentencesTest {
    public static void main(String[] args) {
        places();
        truthsOfKinds();
        seats();
        takenAs();
        rule();
        school();
        clear();
        truth();
        is();
        seat();
        seated();
        strong();
        key();
        weight();
        Script.end(13, 22);
    }

    private static void places() {
        StringBuilder all = new StringBuilder();
        for (int r = 0; r < 16; r++) {
            all.append("is %1$d 0 = 0; is %1$d 1 = 0; is %1$d 2 = 0; is %1$d 3 = 0; is %1$d 4 = 0\n".formatted(r));
            all.append("truth %1$d 0 0 true = NOTHING; seated %1$d 0 = NOTHING; clear %1$d = 0\n".formatted(r));
        }
        Script.test("PLACES 0 .. 15 have nothing (at first), a RULE, or a SCHOOL.", all.toString(), """
            rule 0 2 = 1; school 15 0 8 = 1; count 4 = 2; is 0 2 = 1; is 15 4 = 1; is 0 4 = 0; is 15 2 = 0
            school 0 0 0 = 1; is 0 2 = 0; is 0 4 = 1; rule 15 3 = 1; is 15 4 = 0; is 15 3 = 1; count 4 = 2
            rule 16 0 = BAD; rule -1 0 = BAD; rule MAX 0 = BAD; rule MIN 0 = BAD; school 16 0 0 = BAD
            school -1 0 0 = BAD; clear 16 = BAD; clear -1 = BAD
            """);
        Script.test("KINDS of RULES: 0 INTERVAL, 1 MOTION (an INTERVAL, too), 2 LEAP, 3 CADENCE (a MOTION, too).", """
            rule 0 0; is 0 0 = 1; is 0 1 = 0; is 0 2 = 0; is 0 3 = 0; is 0 4 = 0
            rule 0 1; is 0 0 = 1; is 0 1 = 1; is 0 2 = 0; is 0 3 = 0; is 0 4 = 0
            rule 0 2; is 0 0 = 0; is 0 1 = 0; is 0 2 = 1; is 0 3 = 0; is 0 4 = 0
            rule 0 3; is 0 0 = 1; is 0 1 = 1; is 0 2 = 0; is 0 3 = 1; is 0 4 = 0
            rule 0 4 = BAD; rule 0 -1 = BAD; rule 0 MAX = BAD; rule 0 MIN = BAD; is 0 3 = 1
            """);
    }

    private static void truthsOfKinds() {
        String sentence = "An INTERVAL has truths 0 .. 11, its RESTS; a MOTION besides 0 .. 47, its COMES; a LEAP 0 .. "
                + "24, its ANSWERED; all are false at first.";
        int[][] kindAndAs = {{0, 0, 12}, {1, 0, 12}, {1, 1, 48}, {3, 0, 12}, {3, 1, 48}, {2, 2, 25}};
        for (int[] k : kindAndAs) {
            StringBuilder text = new StringBuilder("rule 0 " + k[0] + "\n");
            for (int i = 0; i < k[2]; i++) {
                text.append("truth 0 " + k[1] + " " + i + " false = 0\n");
            }
            for (String beyond : new String[] {"-1", "" + k[2], "MAX", "MIN"}) {
                text.append("truth 0 " + k[1] + " " + beyond + " true = BEYOND\n");
            }
            // each truth is one of its own: the last one of a row does not lie in the next row
            text.append("truth 0 " + k[1] + " " + (k[2] - 1) + " true = 0\n");
            for (int i = 0; i < k[2]; i++) {
                text.append("truth 0 " + k[1] + " " + i + " false = " + (i == k[2] - 1 ? 1 : 0) + "\n");
            }
            Script.test(sentence, text.toString());
        }
        Script.test("a MOTION besides 0 .. 47, its COMES", """
            rule 0 3; truth 0 0 0 true = 0; truth 0 1 0 true = 0; truth 0 1 11 true = 0; truth 0 0 11 false = 0
            truth 0 0 0 true = 1; truth 0 1 0 false = 1; truth 0 0 0 true = 1
            """);
    }

    private static void seats() {
        Script.test("A SCHOOL has 0 .. 8 SEATS of a TYPE, 0 for any RULE, 1 for INTERVALS, 2 for LEAPS, each with a "
                + "RULE or nothing.", """
            school 9 0 0; seated 9 0 = BEYOND; seated 9 -1 = BEYOND
            school 9 0 8; seated 9 0 = NONE; seated 9 7 = NONE; seated 9 8 = BEYOND
            rule 0 0; rule 1 1; rule 2 2; rule 3 3
            seat 9 0 0 = 1; seat 9 7 1 = 1; seat 9 1 2 = 1; seat 9 2 3 = 1; seat 9 8 0 = BEYOND
            seated 9 0 = 0; seated 9 7 = 1; seated 9 1 = 2; seated 9 2 = 3; seated 9 3 = NONE
            school 9 1 1; seat 9 0 0 = 1; seat 9 0 1 = 1; seat 9 0 2 = STORE; seat 9 0 3 = 1; seated 9 0 = 3
            school 9 2 1; seat 9 0 0 = STORE; seat 9 0 1 = STORE; seat 9 0 2 = 1; seat 9 0 3 = STORE; seated 9 0 = 2
            seat 9 0 15 = 1; seated 9 0 = NONE
            school 9 3 1 = BAD; school 9 -1 1 = BAD; school 9 MAX 1 = BAD; school 9 MIN 1 = BAD
            """);
    }

    private static void takenAs() {
        Script.test("TAKEN AS something: CAST, if it is something else; nothing may be taken as anything.", """
            rule 0 0; rule 1 1; rule 2 2; rule 3 3; school 4 0 1
            truth 0 0 0 true = 0; truth 0 1 0 true = CAST; truth 0 2 0 true = CAST
            truth 1 0 0 true = 0; truth 1 1 0 true = 0; truth 1 2 0 true = CAST
            truth 2 0 0 true = CAST; truth 2 1 0 true = CAST; truth 2 2 0 true = 0
            truth 3 0 0 true = 0; truth 3 1 0 true = 0; truth 3 2 0 true = CAST
            truth 4 0 0 true = CAST; truth 4 1 0 true = CAST; truth 4 2 0 true = CAST
            truth 5 0 0 true = NOTHING; truth 5 1 0 true = NOTHING; truth 5 2 0 true = NOTHING
            seated 0 0 = CAST; seated 1 0 = CAST; seated 2 0 = CAST; seated 3 0 = CAST; seated 5 0 = NOTHING
            seat 0 0 1 = CAST; seat 4 0 4 = CAST; seat 5 0 1 = NOTHING; seat 4 0 5 = 1
            """);
    }

    private static void rule() {
        Script.test("A new RULE of a KIND stands at a PLACE: 1. BAD.", """
            rule 15 0 = 1; truths 15 0 0 11; rule 15 0 = 1; truth 15 0 0 true = 0; truth 15 0 11 true = 0
            rule 0 3 = 1; is 0 3 = 1; rule 0 0 = 1; is 0 3 = 0; is 0 0 = 1
            school 1 0 1; seat 1 0 15; rule 15 2 = 1; seated 1 0 = 0
            rule 16 0 = BAD; rule -1 0 = BAD; rule 0 4 = BAD; rule 0 -1 = BAD; count 4 = 3
            """);
    }

    private static void school() {
        Script.test("A new SCHOOL of n SEATS of a TYPE stands at a PLACE: 1. BAD: r, type, n above 8; SIZE: n below "
                + "0.", """
            rule 1 0; school 0 0 2 = 1; seat 0 1 1; school 0 0 2 = 1; seated 0 1 = NONE
            school 0 2 8 = 1; seated 0 7 = NONE; school 0 1 0 = 1; seated 0 0 = BEYOND
            school 1 0 -1 = SIZE; school 1 0 MIN = SIZE; is 1 0 = 1; school 15 2 -1 = SIZE; is 15 4 = 0
            school 0 0 9 = BAD; school 0 0 MAX = BAD; school 0 3 0 = BAD; school 0 -1 0 = BAD; school 16 0 0 = BAD
            school -1 0 0 = BAD; school 0 3 -1 = BAD; school 16 0 -1 = BAD; seated 0 0 = BEYOND; count 4 = 2
            """);
    }

    private static void clear() {
        Script.test("Nothing stands at a PLACE: 1 if something did, else 0. BAD.", """
            clear 0 = 0; clear 15 = 0; rule 0 0; school 15 0 0; clear 0 = 1; clear 15 = 1; clear 0 = 0; clear 15 = 0
            is 0 0 = 0; is 15 4 = 0; count 4 = 0; rule 1 0; rule 2 0; clear 1 = 1; is 2 0 = 1
            clear 16 = BAD; clear -1 = BAD; clear MAX = BAD; clear MIN = BAD; count 4 = 1
            """);
    }

    private static void truth() {
        Script.test("TAKEN AS an INTERVAL (as = 0: RESTS), a MOTION (1: COMES), a LEAP (2: ANSWERED): what it was (1, "
                + "0).",
                """
            rule 0 3; truth 0 0 5 true = 0; truth 0 0 5 true = 1; truth 0 0 5 false = 1; truth 0 0 5 false = 0
            truth 0 1 47 true = 0; truth 0 1 47 false = 1; truth 0 1 47 false = 0
            rule 1 2; truth 1 2 24 true = 0; truth 1 2 24 false = 1; truth 1 2 0 true = 0; truth 1 2 0 true = 1
            """);
        Script.test("BAD: r, as; CAST; NOTHING; BEYOND.", """
            truth 16 0 0 true = BAD; truth -1 0 0 true = BAD; truth 0 3 0 true = BAD; truth 0 -1 0 true = BAD
            truth MAX 0 0 true = BAD; truth MIN 0 0 true = BAD; truth 0 MAX 0 true = BAD; truth 0 MIN 0 true = BAD
            truth 0 0 12 true = NOTHING; truth 0 1 -1 true = NOTHING; truth 0 2 99 true = NOTHING
            rule 0 0; truth 0 1 48 true = CAST; truth 0 2 25 true = CAST; truth 0 0 12 true = BEYOND
            rule 0 2; truth 0 0 12 true = CAST; truth 0 1 48 true = CAST; truth 0 2 25 true = BEYOND
            rule 0 1; truth 0 1 48 true = BEYOND; truth 0 1 -1 true = BEYOND; truth 0 0 -1 true = BEYOND
            """);
    }

    private static void is() {
        Script.test("INTERVAL (0), MOTION (1), LEAP (2), CADENCE (3), SCHOOL (4): 1, 0. BAD.", """
            is 0 0 = 0; is 0 4 = 0; status = 0
            school 0 0 0; is 0 4 = 1; is 0 3 = 0; is 0 0 = 0; school 0 2 8; is 0 4 = 1; is 0 2 = 0
            rule 0 3; is 0 4 = 0; is 0 3 = 1
            is 0 5 = BAD; is 0 -1 = BAD; is 16 0 = BAD; is -1 0 = BAD; is MAX 0 = BAD; is 0 MIN = BAD; is 0 MAX = BAD
            """);
    }

    private static void seat() {
        Script.test("SEAT k of what stands at PLACE s, TAKEN AS a SCHOOL, gets what stands at PLACE r, TAKEN AS a RULE "
                + "(or nothing): 1.", """
            school 15 0 8; rule 0 0; rule 1 2; seat 15 0 0 = 1; seat 15 7 1 = 1; seated 15 0 = 0; seated 15 7 = 2
            seated 15 1 = NONE; seated 15 6 = NONE; seat 15 0 1 = 1; seated 15 0 = 2; seat 15 0 9 = 1
            seated 15 0 = NONE
            seat 15 3 9 = 1; seated 15 3 = NONE
            truths 1 2 7; clear 1; tune 0 60:1 67:1 70:1; faults 15 = 1; fault 0 0 = 7
            """);
        Script.test("BAD: the PLACES; CAST: s, then r; NOTHING: s; BEYOND: k; STORE: it is not of that TYPE.", """
            rule 0 0; rule 2 2; school 4 1 1; school 5 2 1
            seat 16 0 0 = BAD; seat -1 0 0 = BAD; seat 4 0 16 = BAD; seat 4 0 -1 = BAD; seat 0 9 16 = BAD
            seat MAX 0 0 = BAD; seat 4 0 MIN = BAD
            seat 0 0 0 = CAST; seat 0 9 9 = CAST; seat 0 0 4 = CAST; seat 9 0 4 = CAST; seat 4 9 5 = CAST
            seat 4 0 4 = CAST
            seat 9 0 0 = NOTHING; seat 9 9 9 = NOTHING; seat 9 -1 2 = NOTHING
            seat 4 1 0 = BEYOND; seat 4 -1 0 = BEYOND; seat 4 1 2 = BEYOND; seat 4 1 9 = BEYOND; seat 4 MAX 0 = BEYOND
            seat 4 MIN 0 = BEYOND
            seat 4 0 0 = 1; seat 4 0 2 = STORE; seated 4 0 = 0; seat 5 0 2 = 1; seat 5 0 0 = STORE; seated 5 0 = 2
            seat 5 0 9 = 1; seat 4 0 9 = 1; seated 4 0 = NONE; seated 5 0 = NONE
            school 6 0 0; seat 6 0 0 = BEYOND
            """);
    }

    private static void seated() {
        Script.test("KIND of the RULE in SEAT k of what stands at a PLACE, TAKEN AS a SCHOOL; NONE: nothing is there. "
                + "BAD; CAST; NOTHING; BEYOND.", """
            rule 0 0; rule 1 1; rule 2 2; rule 3 3; school 4 0 4
            seat 4 0 3; seat 4 1 2; seat 4 2 1; seat 4 3 0; seated 4 0 = 3; seated 4 1 = 2; seated 4 2 = 1
            seated 4 3 = 0
            seated 4 4 = BEYOND; seated 4 -1 = BEYOND; seated 4 MAX = BEYOND; seated 4 MIN = BEYOND
            seat 4 3 9; seated 4 3 = NONE; status = 0
            seated 0 9 = CAST; seated 9 9 = NOTHING; seated 16 0 = BAD; seated -1 0 = BAD; seated MAX 9 = BAD
            seated MIN 9 = BAD
            """);
    }

    private static void strong() {
        Script.test("TICKS that are multiples of m (1 .. 16) are STRONG: what it was. BAD.", """
            strong 1 = 4; strong 16 = 1; strong 0 = BAD; strong 17 = BAD; strong -1 = BAD; strong MAX = BAD
            strong MIN = BAD; strong 16 = 16
            tune 0 60:8 60:8 60:1; tune 1 61:8 61:8 61:1; rule 0 0
            faults 0 = 2; fault 0 1 = 0; fault 1 1 = 16
            strong 15 = 16; faults 0 = 2; fault 1 1 = 15; strong 8 = 15; faults 0 = 3; fault 1 1 = 8; fault 2 1 = 16
            strong 1 = 8; faults 0 = 17; fault 16 1 = 16
            """);
    }

    private static void key() {
        Script.test("KEY: truth k is bit k (0 .. 4095): what it was. BAD.", """
            key 0 = 4095; key 4095 = 0; key 4096 = BAD; key -1 = BAD; key MAX = BAD; key MIN = BAD; key 1 = 4095
            key 2048 = 1; key 2048 = 2048
            tune 0 60:1; voice 1 1; school 0 0 0
            set 1 0 0 true 60 71 1 = 0; many = 1; told 1 71:1
            key 1; set 1 0 0 true 60 71 1 = 0; many = 1; told 1 60:1
            key 0; set 1 0 0 true 60 71 1 = NONE; many = 0
            key 4095; set 1 0 0 true 60 71 1 = 0; many = 12
            key 4094; set 1 0 0 true 60 72 1 = 0; many = 11
            """);
    }

    private static void weight() {
        Script.test("WEIGHT k (0 .. 2) becomes w (0 .. 9): what it was. BAD.", """
            weight 0 0 = 1; weight 1 9 = 1; weight 2 4 = 1; weight 0 9 = 0; weight 1 0 = 9; weight 2 5 = 4
            weight 0 10 = BAD; weight 0 -1 = BAD; weight 0 MAX = BAD; weight 0 MIN = BAD
            weight 3 1 = BAD; weight -1 1 = BAD; weight MAX 1 = BAD; weight MIN 1 = BAD
            weight 0 0 = 9; weight 1 0 = 0; weight 2 0 = 5
            """);
    }
}
