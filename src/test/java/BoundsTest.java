import java.util.ArrayList;
import java.util.List;

/**
 * "BAD: a number is not as told" and "What is BAD changes nothing": for each number of each call one just below, at and
 * just above each bound, the least and the greatest int; and all that can be seen afterwards.
 */
public final class BoundsTest {
    /** A number that is as told, then from where to where it may be; an end that is left out is no bound. */
    private static final String[] CALLS = {
        "voice 0:0..5 1:..24", "drop 1:0..5", "note 0:0..5 1:.. 60:0..120 1:0..8", "cut 0:0..5 0:0..1 1:..24",
        "size 0:0..5 1:0..1", "number 0:0..5 0:0..1 1:..", "end 0:0..5", "sounds 0:0..5 1:0..",
        "transpose 0:0..5 1:-60..60",
        "copy 0:0..5 0:.. 1:0..5 0:.. 1:..", "rule 9:0..15 0:0..3", "school 9:0..15 1:0..2 1:..8", "clear 0:0..15",
        "truth 3:0..15 1:0..2 1:.. true", "is 0:0..15 1:0..4", "seat 4:0..15 1:.. 0:0..15", "seated 4:0..15 1:..",
        "strong 3:1..16", "key 1:0..4095", "weight 1:0..2 1:0..9", "faults 0:0..15", "fault 0:.. 1:0..3", "mend 0:..",
        "canon 0:0..5 0:0..15 1:0..60 1:-60..60 1:0..2", "canons 0:0..5 0:0..15 1:-60..60 1:0..2",
        "follows 0:0..5 1:0..1000 1:0..60 1:-60..60 1:0..2",
        "set 1:0..5 0:0..5 7:0..15 true 60:49..64 64:60..75 1:0..30",
        "set 1:0..5 0:0..5 7:0..15 false 1:1..5 5:1..16 1:0..30",
        "set 1:0..5 0:0..5 7:0..15 true 115:105..120 120:115..120 1:0..30",
        "set 1:0..5 0:0..5 7:0..15 false 1:1..1 1:1..16 1:0..30",
        "set 1:0..5 0:0..5 7:0..15 true 120:105..120 120:120..120 1:0..30",
        "goOn 1:0..30", "print 0:0..5", "read 0:0..5", "put 3:0..8 65:32..126", "cutLine 3:0..8", "character 3:..",
        "trace 3:..",
        "count 1:0..7"};
    /** BAD only with a SETTING; without one they answer NONE. */
    private static final String[] CALLS_OF_SETTINGS = {"row 3:.. 61:60..64 1:0..2",
            "spoil 3:.. 61:60..64 1:0..2 5:0..1000000000"};

    private static final Due due = new Due();
    private static final List<List<List<String>>> asItWas = new ArrayList<>();

    public static void main(String[] args) {
        for (int setting = 0; setting < Seen.SETTINGS.length; setting++) {
            List<List<String>> parts = new ArrayList<>();
            for (int part = 0; part < Seen.PARTS; part++) {
                parts.add(Seen.look(Seen.made(setting, true), part));
            }
            asItWas.add(parts);
            for (String call : CALLS) {
                eachNumber(setting, call.split(" "));
            }
            for (String call : CALLS_OF_SETTINGS) {
                if (setting > 0) {
                    eachNumber(setting, call.split(" "));
                } else {
                    withoutSetting(call.split(" "));
                }
            }
        }
        due.end();
    }

    private static void eachNumber(int setting, String[] words) {
        for (int k = 1; k < words.length; k++) {
            if (!words[k].contains(":")) {
                continue;
            }
            String range = words[k].substring(words[k].indexOf(':') + 1);
            String from = range.substring(0, range.indexOf(".."));
            String to = range.substring(range.indexOf("..") + 2);
            if (from.isEmpty()) {
                fine(setting, words, k, Integer.MIN_VALUE);
                fine(setting, words, k, -1);
            } else {
                fine(setting, words, k, Integer.parseInt(from));
                bad(setting, words, k, Integer.parseInt(from) - 1);
                bad(setting, words, k, Integer.MIN_VALUE);
            }
            if (to.isEmpty()) {
                fine(setting, words, k, Integer.MAX_VALUE);
            } else {
                fine(setting, words, k, Integer.parseInt(to));
                bad(setting, words, k, Integer.parseInt(to) + 1);
                bad(setting, words, k, Integer.MAX_VALUE);
            }
        }
    }

    /** The call with one number in place of another. */
    private static String[] with(String[] words, int place, int number) {
        String[] call = new String[words.length];
        for (int k = 0; k < words.length; k++) {
            call[k] = k == place ? "" + number : words[k].replaceAll(":.*", "");
        }
        return call;
    }

    private static void fine(int setting, String[] words, int place, int number) {
        String[] call = with(words, place, number);
        held(call, Script.call(Seen.made(setting, true), call) != TuneSchool.BAD);
    }

    private static void bad(int setting, String[] words, int place, int number) {
        String[] call = with(words, place, number);
        for (int part = 0; part < Seen.PARTS; part++) {
            TuneSchool x = Seen.made(setting, true);
            held(call, Script.call(x, call) == TuneSchool.BAD);
            held(call, Seen.look(x, part).equals(asItWas.get(setting).get(part)));
        }
    }

    private static void withoutSetting(String[] words) {
        for (int k = 1; k < words.length; k++) {
            for (int number : new int[] {Integer.MIN_VALUE, -1, 0, Integer.MAX_VALUE}) {
                String[] call = with(words, k, number);
                held(call, Script.call(Seen.made(0, true), call) == TuneSchool.NONE);
            }
        }
    }

    private static void held(String[] call, boolean is) {
        if (!is) {
            System.out.println("not as told: " + String.join(" ", call));
        }
        due.is(1, is ? 1 : 0);
    }
}
