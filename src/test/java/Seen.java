import java.util.ArrayList;
import java.util.List;

/**
 * Objects with something of everything, and all that can be seen of one by its calls. To see may change the object, so
 * each part is looked at on an object of its own.
 */
final class Seen {
    static final int PARTS = 8, TOLD = 0;
    static final String[] SETTINGS = {"none", "left", "written", "waiting"};
    private static final String[] SETS = {"", "set 1 0 7 true 60 64 2 = 2", "set 1 0 7 true 60 64 30 = 0",
        "set 4 0 7 true 60 64 30 = NOTHING"};
    /** VOICE 2 can not be gone through and VOICE 4 is MISSING; nothing stands from PLACE 8 on. */
    private static final String MADE = """
        tune 0 60:4 62:2 R:1 64:1; tune 1 67:4 69:2 71:1 72:1; tune 2 50:1 51:2 52:3; voice 3 2; voice 5 0
        rule 0 0; truths 0 0 0 3 7; rule 1 1; truths 1 0 4; truths 1 1 0 13 47; rule 2 2; truths 2 2 7 24
        rule 3 3; truths 3 0 0; truths 3 1 5; school 4 0 3; seat 4 0 0; seat 4 2 2; school 5 1 2; seat 5 1 1
        school 6 2 1; school 7 0 0; strong 2; key 4091; weight 0 2; weight 1 3; weight 2 4
        faults 4; copy 0 0 1 0 2 = 2
        """;
    private static final String LATER = """
        line "60:1 R:2"; cut 2 1 1; note 3 1 40 8; mend 0
        """;

    private Seen() {
    }

    /** The SETTING is one of SETTINGS; the latest call met NOTHING, or no FINDING. */
    static TuneSchool made(int setting, boolean withFinding) {
        TuneSchool x = new TuneSchool();
        make(x, setting, withFinding);
        return x;
    }

    /** A new TuneSchool or PlainSchool becomes such an object. */
    static void make(Object school, int setting, boolean withFinding) {
        Script.prepare(school, MADE, SETS[setting], LATER, withFinding ? "end 4 = NOTHING" : "end 0 = 8");
    }

    static List<String> look(TuneSchool x, int part) {
        List<String> seen = new ArrayList<>();
        switch (part) {
            case TOLD -> told(x, seen);
            case 1 -> voices(x, seen);
            case 2 -> rules(x, seen);
            case 3 -> faultsAndLine(x, seen);
            case 4 -> setting(x, seen);
            case 5 -> {
                see(x, seen, "goOn", 30);
                voices(x, seen);
            }
            case 6 -> {
                see(x, seen, "undo");
                voices(x, seen);
            }
            default -> mends(x, seen);
        }
        return seen;
    }

    private static void see(TuneSchool x, List<String> seen, Object... words) {
        String[] texts = new String[words.length];
        for (int k = 0; k < words.length; k++) {
            texts[k] = String.valueOf(words[k]);
        }
        seen.add(String.join(" ", texts) + " = " + Script.call(x, texts));
    }

    private static void told(TuneSchool x, List<String> seen) {
        see(x, seen, "status");
        for (int what = 0; what < 8; what++) {
            see(x, seen, "count", what);
        }
        for (int i = -1; i < 61; i++) {
            see(x, seen, "trace", i);
        }
    }

    private static void voices(TuneSchool x, List<String> seen) {
        for (int v = 0; v < 6; v++) {
            for (int row = 0; row < 2; row++) {
                see(x, seen, "size", v, row);
                for (int i = 0; i < 5; i++) {
                    see(x, seen, "number", v, row, i);
                }
            }
        }
    }

    private static void rules(TuneSchool x, List<String> seen) {
        int[] truths = {12, 48, 25};
        for (int r = 0; r < 16; r++) {
            for (int as = 0; as < 5; as++) {
                see(x, seen, "is", r, as);
                int some = as < 3 && r < 4 && x.is(r, as) == 1 ? truths[as] : 0;
                for (int i = 0; i < some; i++) {
                    see(x, seen, "truth", r, as, i, false);
                }
            }
            for (int k = 0; k < 4 && x.is(r, 4) == 1; k++) {
                see(x, seen, "seated", r, k);
            }
        }
        see(x, seen, "strong", 4);
        see(x, seen, "key", 4095);
        for (int k = 0; k < 3; k++) {
            see(x, seen, "weight", k, 1);
        }
    }

    private static void faultsAndLine(TuneSchool x, List<String> seen) {
        for (int i = 0; i < 20; i++) {
            for (int what = 0; what < 4; what++) {
                see(x, seen, "fault", i, what);
            }
        }
        for (int i = 0; i < 12; i++) {
            see(x, seen, "character", i);
        }
        see(x, seen, "cutLine", 0);
    }

    private static void setting(TuneSchool x, List<String> seen) {
        see(x, seen, "least");
        see(x, seen, "many");
        for (int i = 0; i < 4; i++) {
            for (int p = 59; p <= 65; p++) {
                for (int d = 0; d < 3; d++) {
                    see(x, seen, "row", i, p, d);
                }
            }
        }
        see(x, seen, "check");
    }

    private static void mends(TuneSchool x, List<String> seen) {
        Script.prepare(x, "drop 2");
        for (int i = 0; i < 6; i++) {
            see(x, seen, "mend", i);
            see(x, seen, "count", 2);
        }
        for (int r = 0; r < 8; r++) {
            see(x, seen, "faults", r);
            see(x, seen, "canons", 0, r, 0, 0);
        }
    }
}
