/** Promises 41 to 43, sentence by sentence. */
public final class ToldSentencesTest {
    public static void main(String[] args) {
        status();
        statusLeft();
        statusOfBad();
        trace();
        traceEmptied();
        traceOfSixty();
        counts();
        countOfFaults();
        countOfFindings();
        countOfCopied();
        countOfSteps();
        countOfTrace();
        countBad();
        changeNothing();
        Script.end(41, 43);
    }

    private static void status() {
        String made = "tune 0 60:1; school 0 0 1; rule 1 0; line \"x\"; goOn 0 = STATE; status = 7\n";
        String[] clearing = {"voice 0 1", "drop 5", "note 0 0 61 1", "cut 0 0 0", "size 0 0", "number 0 0 0", "end 0",
            "sounds 0 0", "transpose 0 0", "copy 0 0 0 0 0", "undo", "rule 0 0", "school 0 0 0", "clear 9",
            "truth 1 0 0 true", "is 9 0", "seat 0 0 1", "seated 0 0", "strong 4", "key 4095", "weight 0 1", "faults 0",
            "mend 0", "canon 0 0 0 0 0", "canons 0 0 0 0", "follows 0 0 0 0 0", "set 0 0 0 true 60 60 0",
            "set 0 0 0 true 60 60 1", "set 0 0 0 true 50 50 1", "check", "print 0", "read 0"};
        for (String call : clearing) {
            Script.test("The FINDING of the latest of the calls above that was not BAD", made, call,
                    "status = 0; count 1 = 1");
        }
        Script.test("0: it met none.", made, "set 0 0 0 true 60 60 0 = 1; goOn 31; undo; undo; status = 7; goOn 1 = 0; "
                + "status = 0",
                "goOn 1 = STATE; status = 7; line \"R:1\"; status = 7; read 0 = 1; status = 0");
    }

    private static void statusLeft() {
        Script.test("(fault(), least(), many(), row(), spoil(), put(), cutLine(), character() are none of these)", """
            tune 0 60:1; school 0 0 1; set 0 0 0 true 60 60 1 = 0; end 1 = NOTHING
            fault 0 0 = NONE; status = 1; least = 1; status = 1; many = 1; status = 1; row 0 60 0 = 1; status = 1
            spoil 0 60 0 2 = 1; status = 1; put 0 'a' = 1; status = 1; cutLine 0 = 1; status = 1; character 0 = NONE
            status = 1; trace 0 = NONE; status = 1; count 1 = 1; status = 1; status = 1
            row 9 60 0 = NONE; spoil 9 60 0 0 = NONE; status = 1; count 1 = 1
            """);
    }

    private static void statusOfBad() {
        Script.test("What is BAD changes nothing", """
            end 0 = NOTHING; voice 6 0 = BAD; status = 1; rule 16 0 = BAD; status = 1; faults 16 = BAD; status = 1
            goOn 31 = BAD; status = 1; print 6 = BAD; read 6 = BAD; count 8 = BAD; fault 0 4 = BAD; put 1 'a' = BAD
            cutLine 1 = BAD; status = 1; count 1 = 1; voice 0 0; status = 0; voice 6 -1 = BAD; status = 0; count 1 = 1
            """);
    }

    private static void trace() {
        Script.test("Number i of THE TRACE", """
            trace 0 = NONE; trace -1 = NONE; trace MAX = NONE; trace MIN = NONE
            tune 0 60:1; rule 0 0; faults 0 = 0; trace 0 = 10; trace 1 = NONE; trace -1 = NONE; trace MAX = NONE
            trace MIN = NONE; voice 0 0; faults 0 = 0; trace 0 = NONE; count 2 = 0
            """);
    }

    private static void traceEmptied() {
        String traced = "tune 0 60:1; rule 0 0; faults 0 = 0; traced 10\n";
        Script.test("which is empty ahead of each faults(), mend(), canon(), canons() that is not BAD",
                traced + "faults 9 = NOTHING; traced", traced + "mend 0 = NONE; traced", traced
                + "mend MIN = NONE; traced",
                traced + "canon 1 0 0 0 0 = NOTHING; traced", traced + "canons 0 9 0 0 = NOTHING; traced",
                traced + "canon 0 0 0 0 0 = 0; traced 10 1", traced + "canons 0 0 0 0 = 1048575; traced",
                traced + "cut 0 1 0; faults 0 = BEYOND; traced", traced + "faults 0 = 0; traced 10",
                traced + "faults 16 = BAD; canon 0 16 0 0 0 = BAD; canons 0 0 0 3 = BAD; traced 10",
                traced + "end 0; follows 0 0 0 0 0; fault 0 0; check; print 0; undo; rule 0 0; clear 0; traced 10");
    }

    private static void traceOfSixty() {
        Script.test("its first 60 are told; NONE.", "rule 0 0; rule 1 2", """
            tune 0 60:8 60:8 60:8 60:8 60:8 60:8 60:8 60:3; faults 0 = 0; count 2 = 59; trace 58 = 10; trace 59 = NONE
            note 0 7 60 4; faults 0 = 0; count 2 = 60; trace 59 = 10; trace 60 = NONE
            note 0 7 60 5; faults 0 = 0; count 2 = 61; trace 59 = 10; trace 60 = NONE; trace 61 = NONE
            faults 1 = 0; count 2 = 122; trace 58 = 11; trace 59 = 4; trace 60 = NONE; trace 121 = NONE
            tune 0 60:1; faults 0 = 0; count 2 = 1; trace 1 = NONE; trace 59 = NONE
            """);
    }

    private static void counts() {
        StringBuilder text = new StringBuilder("count 3 = 0; count 4 = 0\n");
        for (int v = 0; v < 6; v++) {
            text.append("voice " + v + " 0; count 3 = " + (v + 1) + "\n");
        }
        text.append("voice 5 1; count 3 = 6; drop 0; count 3 = 5; drop 0; count 3 = 5; undo; undo; count 3 = 5\n");
        text.append("line \"\"; read 0; count 3 = 6; undo; count 3 = 5\n");
        Script.test("3 VOICES that are there", text.toString());
        text = new StringBuilder();
        for (int r = 0; r < 16; r++) {
            text.append(r % 2 == 0 ? "rule " + r + " 2" : "school " + r + " 0 0").append("; count 4 = " + (r + 1)
                    + "\n");
        }
        text.append("rule 0 1; count 4 = 16; clear 0; clear 15; count 4 = 14; clear 0; count 4 = 14; school 0 0 -1; "
                + "count 4 = 14");
        Script.test("4 PLACES with something", text.toString());
        Script.test("7 whether a VOICE is KEPT.", """
            count 7 = 0; drop 0; count 7 = 1; voice 0 1; count 7 = 1; undo; count 7 = 0; undo; count 7 = 0
            voice 0 -1; count 7 = 0; voice 0 0; count 7 = 1; voice 0 25; end 0; count 7 = 1
            """);
    }

    private static void countOfFaults() {
        Script.test("0 FAULTS of the latest faults() that met no FINDING", """
            count 0 = 0; tune 0 60:1; tune 1 61:1; rule 0 0; faults 0 = 1; count 0 = 1; faults 9 = NOTHING; count 0 = 1
            cut 1 1 0; faults 0 = BEYOND; count 0 = 1; faults 16 = BAD; count 0 = 1; mend 0; canon 0 0 0 0 0 = 0
            count 0 = 1
            drop 1; faults 0 = 0; count 0 = 0; rule 1 0; faults 9 = NOTHING; count 0 = 0
            """);
    }

    private static void countOfFindings() {
        Script.test("1 FINDINGS met so far", """
            count 1 = 0; end 0 = NOTHING; count 1 = 1; end 0 = NOTHING; count 1 = 2; end 6 = BAD; count 1 = 2
            voice 0 2; count 1 = 2; voice 0 -1 = SIZE; count 1 = 3; cut 0 1 0; faults 0 = BEYOND; count 1 = 4
            mend 0 = NONE; count 1 = 4; undo; undo; undo = STATE; count 1 = 6; read 0; count 1 = 6
            put 0 'x'; read 0 = -100; count 1 = 6; copy 0 0 0 0 9 = BEYOND; count 1 = 7; row 0 0 0; least; count 1 = 7
            """);
    }

    private static void countOfCopied() {
        Script.test("6 ROWS that the latest copy() that was not BAD copied", """
            count 6 = 0; tune 0 60:1; copy 0 0 0 0 1 = 1; count 6 = 2; copy 6 0 0 0 1 = BAD; count 6 = 2
            copy 0 0 1 0 1 = NOTHING; count 6 = 0; copy 0 0 0 0 0 = 0; count 6 = 2; copy 0 0 0 0 2 = BEYOND; count 6 = 0
            cut 0 1 0; copy 0 0 0 0 1 = BEYOND; count 6 = 1; copy 0 0 6 0 1 = BAD; count 6 = 1; undo; voice 0 3
            count 6 = 1
            """);
    }

    private static void countOfSteps() {
        Script.test("5 STEPS done of the SETTING", """
            count 5 = 0; tune 0 60:1 R:1 60:0; voice 1 3; school 0 0 0; set 1 0 0 true 60 64 0 = 3; count 5 = 0
            goOn 2 = 1; count 5 = 2; goOn 30 = 0; count 5 = 3; goOn 30 = STATE; count 5 = 3
            set 1 5 0 true 60 64 0 = NOTHING; count 5 = 3; set 1 0 0 true 60 64 31 = BAD; count 5 = 3
            set 1 0 0 true 60 64 1 = 2; count 5 = 1; voice 0 0; set 1 0 0 true 60 64 30 = 0; count 5 = 0
            """, "tune 0 60:1" + " 60:1".repeat(23), """
            voice 1 24; set 1 0 0 true 60 64 23 = 1; count 5 = 23; goOn 30 = 0; count 5 = 24
            """);
    }

    private static void countOfTrace() {
        Script.test("2 how many numbers THE TRACE has (all)", """
            count 2 = 0; tune 0 60:8 60:8 60:8 60:8 60:8 60:8 60:8 60:8; rule 0 2; faults 0 = 0; count 2 = 128
            trace 60 = NONE
            faults 16 = BAD; count 2 = 128; mend 0 = NONE; count 2 = 0; canons 0 0 0 0 = 1048575; count 2 = 1070
            """);
    }

    private static void countBad() {
        Script.test("7 whether a VOICE is KEPT. BAD.", """
            count 7 = 0; count 8 = BAD; count -1 = BAD; count MAX = BAD; count MIN = BAD; status = 0
            """);
    }

    private static void changeNothing() {
        Script.test("---- told (these change nothing, also not status()).", """
            tune 0 60:1; rule 0 0; faults 0 = 0; end 5 = NOTHING
            status = 1; status = 1; trace 0 = 10; trace 1 = NONE; trace 0 = 10; count 0 = 0; count 2 = 1; count 9 = BAD
            count 1 = 1; status = 1; traced 10; count 7 = 1
            """);
    }
}
