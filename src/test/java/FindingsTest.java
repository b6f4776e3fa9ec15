import java.util.ArrayList;
import java.util.List;

/**
 * "an act that meets a FINDING changes nothing but status(), count(1), and as told": each call with each FINDING that
 * it can meet without being told to change something, and all that can be seen afterwards.
 */
public final class FindingsTest {
    private static final String ALL = "none left written waiting";
    /** With which SETTINGS; what is done ahead of it; the call; the FINDING. */
    private static final String[][] ACTS = {
        {ALL, "", "voice 0 -1", "SIZE"}, {ALL, "", "voice 4 MIN", "SIZE"},
        {ALL, "", "note 4 0 60 1", "NOTHING"}, {ALL, "", "note 0 4 61 2", "BEYOND"},
        {ALL, "", "note 0 -1 61 2", "BEYOND"},
        {ALL, "", "note 2 1 61 2", "BEYOND"}, {ALL, "cut 0 0 1", "note 0 1 61 3", "BEYOND"},
        {ALL, "", "cut 4 0 0", "NOTHING"}, {ALL, "", "cut 0 0 -1", "SIZE"}, {ALL, "", "cut 0 1 5", "BEYOND"},
        {ALL, "", "cut 2 1 2", "BEYOND"}, {ALL, "", "size 4 0", "NOTHING"}, {ALL, "", "number 4 0 0", "NOTHING"},
        {ALL, "", "number 0 0 4", "BEYOND"}, {ALL, "", "number 0 1 -1", "BEYOND"}, {ALL, "", "end 4", "NOTHING"},
        {ALL, "", "end 2", "BEYOND"}, {ALL, "", "sounds 4 0", "NOTHING"}, {ALL, "", "sounds 2 0", "BEYOND"},
        {ALL, "", "transpose 4 1", "NOTHING"}, {ALL, "", "transpose 0 60", "RANGE"},
        {ALL, "", "transpose 0 -60", "RANGE"},
        {ALL, "", "copy 4 0 0 0 1", "NOTHING"}, {ALL, "", "copy 0 0 4 0 1", "NOTHING"},
        {ALL, "", "copy 0 0 1 0 5", "BEYOND"},
        {ALL, "", "copy 0 0 1 4 1", "BEYOND"}, {ALL, "", "copy 0 -1 1 0 1", "BEYOND"}, {ALL, "undo", "undo", "STATE"},
        {ALL, "", "school 0 0 -1", "SIZE"}, {ALL, "", "school 15 2 MIN", "SIZE"},
        {ALL, "", "truth 8 0 0 true", "NOTHING"}, {ALL, "", "truth 0 1 0 true", "CAST"},
        {ALL, "", "truth 4 0 0 true", "CAST"},
        {ALL, "", "truth 0 0 12 true", "BEYOND"}, {ALL, "", "truth 1 1 48 true", "BEYOND"},
        {ALL, "", "truth 2 2 25 true", "BEYOND"},
        {ALL, "", "truth 1 1 -1 true", "BEYOND"}, {ALL, "", "seat 0 0 1", "CAST"}, {ALL, "", "seat 4 0 5", "CAST"},
        {ALL, "", "seat 8 0 0", "NOTHING"}, {ALL, "", "seat 4 3 0", "BEYOND"}, {ALL, "", "seat 4 -1 0", "BEYOND"},
        {ALL, "", "seat 5 1 2", "STORE"}, {ALL, "", "seat 6 0 0", "STORE"}, {ALL, "", "seated 0 0", "CAST"},
        {ALL, "", "seated 8 0", "NOTHING"}, {ALL, "", "seated 4 3", "BEYOND"},
        {ALL, "", "faults 4", "BEYOND"}, {ALL, "", "faults 8", "BEYOND"}, {ALL, "drop 2", "faults 8", "NOTHING"},
        {ALL, "cut 0 1 0", "mend 0", "BEYOND"}, {ALL, "cut 1 1 0", "mend 0", "BEYOND"},
        {ALL, "", "canon 4 0 1 0 0", "NOTHING"}, {ALL, "", "canon 2 0 1 0 0", "BEYOND"},
        {ALL, "", "canon 0 8 1 0 0", "NOTHING"},
        {ALL, "", "canons 4 0 0 0", "NOTHING"}, {ALL, "", "canons 2 0 0 0", "BEYOND"},
        {ALL, "", "canons 0 8 0 0", "NOTHING"},
        {ALL, "", "follows 4 0 1 0 0", "NOTHING"}, {ALL, "", "follows 2 0 1 0 0", "BEYOND"},
        {ALL, "", "set 3 4 7 false 50 55 30", "NOTHING"}, {ALL, "", "set 3 2 7 false 50 55 30", "BEYOND"},
        {"none written", "", "goOn 1", "STATE"}, {"left", "clear 7", "goOn 1", "NOTHING"},
        {"waiting", "", "goOn 0", "NOTHING"},
        {"waiting", "voice 4 3", "goOn 30", "BEYOND"}, {"waiting", "voice 4 4; cut 4 1 3", "goOn 1", "BEYOND"},
        {"written waiting", "clear 7", "check", "NOTHING"}, {ALL, "", "print 4", "NOTHING"},
        {ALL, "", "print 2", "BEYOND"}};
    private static final List<String> EMPTY_TRACE = List.of("faults", "mend", "canon", "canons");

    private static final Due due = new Due();

    public static void main(String[] args) {
        for (String[] act : ACTS) {
            for (int setting = 0; setting < Seen.SETTINGS.length; setting++) {
                if (act[0].contains(Seen.SETTINGS[setting])) {
                    meets(setting, act[1], act[2].split(" "), Script.number(act[3]));
                }
            }
        }
        due.end();
    }

    private static void meets(int setting, String ahead, String[] call, int finding) {
        for (int part = 0; part < Seen.PARTS; part++) {
            TuneSchool twin = Seen.made(setting, false);
            TuneSchool x = Seen.made(setting, false);
            Script.prepare(twin, ahead, "end 0", EMPTY_TRACE.contains(call[0]) ? "mend -1" : "");
            Script.prepare(x, ahead, "end 0");
            int met = x.count(1);
            held(call, finding, Script.call(x, call));
            List<String> want = new ArrayList<>(Seen.look(twin, part));
            if (part == Seen.TOLD) {
                want.set(0, "status = " + (-10 - finding));
                want.set(2, "count 1 = " + (met + 1));
                want.set(7, call[0].equals("copy") ? "count 6 = 0" : want.get(7));
            }
            same(call, want, Seen.look(x, part));
        }
    }

    private static void held(String[] call, int want, int got) {
        if (want != got) {
            System.out.println("in " + String.join(" ", call));
        }
        due.is(want, got);
    }

    private static void same(String[] call, List<String> want, List<String> got) {
        for (int k = 0; k < want.size(); k++) {
            if (!want.get(k).equals(got.get(k))) {
                System.out.println("behind " + String.join(" ", call) + ": " + got.get(k) + ", due is " + want.get(k));
            }
        }
        due.is(1, want.equals(got) ? 1 : 0);
    }
}
