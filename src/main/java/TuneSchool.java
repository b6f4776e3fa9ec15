import java.util.Arrays;

/**
 * A school of setting voices against one another, as ../shared/DOC.md promises it.
 * The words in capitals are the document's own.
 */
public final class TuneSchool {
    public static final int BAD = -1, NONE = -2;

    private static final int NOTHING = 1, BEYOND = 2, CAST = 3, STORE = 4, SIZE = 5, RANGE = 6, STATE = 7;

    private static final int VOICES = 6, NOTES = 24, LONGEST = 8, TICKS = 192, HIGHEST = 120;
    private static final int PITCHES = 0, LENGTHS = 1;

    private static final int PLACES = 16, MOST_SEATS = 8, MOST_STRONG = 16, ALL_KEYS = 4095;
    private static final int INTERVAL = 0, MOTION = 1, LEAP = 2, CADENCE = 3, SCHOOL = 4;
    private static final int RESTS = 0, COMES = 1, ANSWERED = 2, WIDEST_LEAP = 24, WIDEST_MEND = 24;
    private static final int[] TRUTHS = {12, 48, 25};

    private static final int NOTED = 200, NUMBERS_OF_A_FAULT = 4, TOLD_OF_TRACE = 60;
    private static final int MOST_LATER = 60, MOST_BY = 60, CANONS = 20, LATEST_ASKED = 1000;
    private static final int UPSIDE_DOWN = 1, TWICE_AS_LONG = 2;

    private static final int MOST_STEPS = 30, WIDEST = 15, DUES = 3, DOWN = 1, UP = 2;
    private static final int FAR = 1000000000, MOST_WEIGHT = 9;

    private static final int LINE = 160, WRONG_PLACE = -100;

    private final Voice[] voices = new Voice[VOICES];
    private final Voice kept = new Voice();
    private final Voice draft = new Voice();
    private final Voice follower = new Voice();
    private final Standing[] places = new Standing[PLACES];
    private final Moment moment = new Moment();
    private final Desk desk = new Desk(moment);
    private final Line line = new Line();
    private final int[] lasts = new int[VOICES * VOICES];
    private final Rule[] faultRules = new Rule[NOTED];
    private final int[] faultNumbers = new int[NOTED * NUMBERS_OF_A_FAULT];
    private int noted;
    private int faultsFound;
    private int keptNumber = NONE;
    private int latestFinding;
    private int findings;
    private int rowsCopied;

    public TuneSchool() {
        for (int v = 0; v < VOICES; v++) {
            voices[v] = new Voice();
        }
    }

    // ---- voices

    public int voice(int v, int n) {
        if (!isVoice(v) || n > NOTES) {
            return BAD;
        }
        if (n < 0) {
            return finding(SIZE);
        }
        keep(v);
        voices[v].renew(n);
        return fine(1);
    }

    public int drop(int v) {
        if (!isVoice(v)) {
            return BAD;
        }
        keep(v);
        int was = voices[v].there ? 1 : 0;
        voices[v].there = false;
        return fine(was);
    }

    public int note(int v, int i, int pitch, int length) {
        if (!isVoice(v) || !isWithin(pitch, 0, HIGHEST) || !isWithin(length, 0, LONGEST)) {
            return BAD;
        }
        Voice x = voices[v];
        if (!x.there) {
            return finding(NOTHING);
        }
        if (!x.has(PITCHES, i) || !x.has(LENGTHS, i)) {
            return finding(BEYOND);
        }
        keep(v);
        x.rows[PITCHES][i] = pitch;
        x.rows[LENGTHS][i] = length;
        return fine(1);
    }

    public int cut(int v, int row, int n) {
        if (!isVoice(v) || !isRow(row) || n > NOTES) {
            return BAD;
        }
        Voice x = voices[v];
        if (!x.there) {
            return finding(NOTHING);
        }
        if (n < 0) {
            return finding(SIZE);
        }
        int had = x.sizes[row];
        if (n > had) {
            return finding(BEYOND);
        }
        keep(v);
        x.sizes[row] = n;
        return fine(had);
    }

    public int size(int v, int row) {
        if (!isVoice(v) || !isRow(row)) {
            return BAD;
        }
        return voices[v].there ? fine(voices[v].sizes[row]) : finding(NOTHING);
    }

    public int number(int v, int row, int i) {
        if (!isVoice(v) || !isRow(row)) {
            return BAD;
        }
        Voice x = voices[v];
        if (!x.there) {
            return finding(NOTHING);
        }
        return x.has(row, i) ? fine(x.rows[row][i]) : finding(BEYOND);
    }

    public int end(int v) {
        if (!isVoice(v)) {
            return BAD;
        }
        int met = goThrough(voices[v]);
        return met == 0 ? fine(voices[v].behindAll) : finding(met);
    }

    public int sounds(int v, int t) {
        if (!isVoice(v) || t < 0) {
            return BAD;
        }
        int met = goThrough(voices[v]);
        return met == 0 ? fine(voices[v].at(t)) : finding(met);
    }

    public int transpose(int v, int by) {
        if (!isVoice(v) || !isWithin(by, -MOST_BY, MOST_BY)) {
            return BAD;
        }
        Voice x = voices[v];
        if (!x.there) {
            return finding(NOTHING);
        }
        if (!x.canShift(by)) {
            return finding(RANGE);
        }
        keep(v);
        return fine(x.shift(by));
    }

    public int copy(int from, int i, int to, int k, int n) {
        if (!isVoice(from) || !isVoice(to)) {
            return BAD;
        }
        rowsCopied = 0;
        Voice x = voices[from];
        Voice y = voices[to];
        if (!x.there || !y.there) {
            return finding(NOTHING);
        }
        if (!x.hasPart(PITCHES, i, n) || !y.hasPart(PITCHES, k, n)) {
            return finding(BEYOND);
        }
        keep(to);
        System.arraycopy(x.rows[PITCHES], i, y.rows[PITCHES], k, n);
        rowsCopied = 1;
        if (!x.hasPart(LENGTHS, i, n) || !y.hasPart(LENGTHS, k, n)) {
            return finding(BEYOND);
        }
        System.arraycopy(x.rows[LENGTHS], i, y.rows[LENGTHS], k, n);
        rowsCopied = 2;
        return fine(n);
    }

    public int undo() {
        if (!isVoice(keptNumber)) {
            return finding(STATE);
        }
        voices[keptNumber].becomeAs(kept);
        keptNumber = NONE;
        return fine(1);
    }

    // ---- rules

    public int rule(int r, int kind) {
        if (!isPlace(r) || !isWithin(kind, INTERVAL, CADENCE)) {
            return BAD;
        }
        places[r] = newRule(kind);
        return fine(1);
    }

    public int school(int r, int type, int n) {
        if (!isPlace(r) || !isWithin(type, School.ANY, School.LEAPS) || n > MOST_SEATS) {
            return BAD;
        }
        if (n < 0) {
            return finding(SIZE);
        }
        places[r] = new School(type, n);
        return fine(1);
    }

    public int clear(int r) {
        if (!isPlace(r)) {
            return BAD;
        }
        int was = places[r] != null ? 1 : 0;
        places[r] = null;
        return fine(was);
    }

    public int truth(int r, int as, int i, boolean is) {
        if (!isPlace(r) || !isWithin(as, RESTS, ANSWERED)) {
            return BAD;
        }
        Standing s = places[r];
        if (s == null) {
            return finding(NOTHING);
        }
        if (!standsAs(s, as) || !(s instanceof Rule)) {
            return finding(CAST);
        }
        if (!isWithin(i, 0, TRUTHS[as] - 1)) {
            return finding(BEYOND);
        }
        Rule taken = (Rule) s;
        int was = taken.holds(as, i) ? 1 : 0;
        taken.change(as, i, is);
        return fine(was);
    }

    public int is(int r, int as) {
        if (!isPlace(r) || !isWithin(as, INTERVAL, SCHOOL)) {
            return BAD;
        }
        return fine(standsAs(places[r], as) ? 1 : 0);
    }

    public int seat(int s, int k, int r) {
        if (!isPlace(s) || !isPlace(r)) {
            return BAD;
        }
        Standing host = places[s];
        Standing guest = places[r];
        if (host instanceof Rule || guest instanceof School) {
            return finding(CAST);
        }
        if (!(host instanceof School)) {
            return finding(NOTHING);
        }
        School into = (School) host;
        if (!isWithin(k, 0, into.seats.length - 1)) {
            return finding(BEYOND);
        }
        if (guest != null && !into.isFor(guest)) {
            return finding(STORE);
        }
        into.seats[k] = guest instanceof Rule ? (Rule) guest : null;
        return fine(1);
    }

    public int seated(int s, int k) {
        if (!isPlace(s)) {
            return BAD;
        }
        if (places[s] == null) {
            return finding(NOTHING);
        }
        if (!(places[s] instanceof School)) {
            return finding(CAST);
        }
        School host = (School) places[s];
        if (!isWithin(k, 0, host.seats.length - 1)) {
            return finding(BEYOND);
        }
        Rule there = host.seats[k];
        return fine(there == null ? NONE : there.kind());
    }

    public int strong(int m) {
        if (!isWithin(m, 1, MOST_STRONG)) {
            return BAD;
        }
        int was = moment.strongEach;
        moment.strongEach = m;
        return fine(was);
    }

    public int key(int bits) {
        if (!isWithin(bits, 0, ALL_KEYS)) {
            return BAD;
        }
        int was = desk.keys;
        desk.keys = bits;
        return fine(was);
    }

    public int weight(int k, int w) {
        if (!isWithin(k, 0, desk.weights.length - 1) || !isWithin(w, 0, MOST_WEIGHT)) {
            return BAD;
        }
        int was = desk.weights[k];
        desk.weights[k] = w;
        return fine(was);
    }

    // ---- faults

    public int faults(int r) {
        if (!isPlace(r)) {
            return BAD;
        }
        moment.openTrace();
        int ticks = 0;
        for (int v = 0; v < VOICES; v++) {
            int met = goThrough(voices[v]);
            if (met == BEYOND) {
                return finding(met);
            }
            ticks = Math.max(ticks, met == 0 ? voices[v].behindAll : 0);
        }
        Standing s = places[r];
        if (s == null) {
            return finding(NOTHING);
        }
        noted = 0;
        faultsFound = 0;
        findLasts();
        for (int t = 0; t < ticks; t++) {
            for (int a = 0; a < VOICES; a++) {
                for (int b = a; b < VOICES; b++) {
                    askPair(s, t, a, b);
                }
            }
        }
        return fine(faultsFound);
    }

    public int fault(int i, int what) {
        if (!isWithin(what, 0, NUMBERS_OF_A_FAULT - 1)) {
            return BAD;
        }
        return isWithin(i, 0, noted - 1) ? faultNumber(i, what) : NONE;
    }

    public int mend(int i) {
        moment.openTrace();
        if (!isWithin(i, 0, noted - 1)) {
            return fine(NONE);
        }
        int a = faultNumber(i, 2);
        int b = faultNumber(i, 3);
        if (goThrough(voices[a]) == BEYOND || goThrough(voices[b]) == BEYOND) {
            return finding(BEYOND);
        }
        moment.stand(voices[a], voices[b], faultNumber(i, 1), lastOfBoth(voices[a], voices[b]));
        Rule told = faultRules[i];
        return fine(moment.bothSound() && told != null ? told.mends(moment) : NONE);
    }

    public int canon(int v, int r, int k, int by, int how) {
        if (!isVoice(v) || !isPlace(r) || !isFollower(k, by, how)) {
            return BAD;
        }
        moment.openTrace();
        int met = goThrough(voices[v]);
        if (met != 0) {
            return finding(met);
        }
        return places[r] == null ? finding(NOTHING) : fine(firstFault(voices[v], places[r], k, by, how));
    }

    public int canons(int v, int r, int by, int how) {
        if (!isVoice(v) || !isPlace(r) || !isFollower(0, by, how)) {
            return BAD;
        }
        moment.openTrace();
        int met = goThrough(voices[v]);
        if (met != 0) {
            return finding(met);
        }
        if (places[r] == null) {
            return finding(NOTHING);
        }
        int bits = 0;
        for (int k = 1; k <= CANONS; k++) {
            if (firstFault(voices[v], places[r], k, by, how) == NONE) {
                bits |= 1 << (k - 1);
            }
        }
        return fine(bits);
    }

    public int follows(int v, int t, int k, int by, int how) {
        if (!isVoice(v) || !isWithin(t, 0, LATEST_ASKED) || !isFollower(k, by, how)) {
            return BAD;
        }
        int met = goThrough(voices[v]);
        return met == 0 ? fine(voices[v].followed(t, k, by, how)) : finding(met);
    }

    // ---- settings

    public int set(int v, int g, int r, boolean above, int low, int high, int n) {
        if (!isVoice(v) || !isVoice(g) || !isPlace(r) || !isWithin(n, 0, MOST_STEPS)) {
            return BAD;
        }
        if (!isWithin(low, 1, HIGHEST) || !isWithin(high, low, HIGHEST) || high - low > WIDEST) {
            return BAD;
        }
        int met = goThrough(voices[g]);
        if (met != 0) {
            return finding(met);
        }
        desk.begin(voices[g], above, low, high);
        desk.target = v;
        desk.place = r;
        return advance(n);
    }

    public int goOn(int n) {
        if (!isWithin(n, 0, MOST_STEPS)) {
            return BAD;
        }
        return desk.begun && !desk.ended ? advance(n) : finding(STATE);
    }

    public int least() {
        return desk.isWorked() && desk.hasTune() ? desk.tuneWeight() : NONE;
    }

    public int many() {
        return desk.isWorked() ? desk.tunes() : NONE;
    }

    public int row(int i, int p, int d) {
        if (!desk.begun) {
            return NONE;
        }
        if (!desk.takes(p, d)) {
            return BAD;
        }
        return desk.hasWorked(i) ? desk.leasts[desk.cell(i, p, d)] : NONE;
    }

    public int spoil(int i, int p, int d, int w) {
        if (!desk.begun) {
            return NONE;
        }
        if (!desk.takes(p, d) || !isWithin(w, 0, FAR)) {
            return BAD;
        }
        if (!desk.isWorked() || !desk.hasWorked(i)) {
            return NONE;
        }
        int cell = desk.cell(i, p, d);
        int was = desk.leasts[cell];
        desk.leasts[cell] = w;
        return was;
    }

    public int check() {
        if (!desk.isWorked()) {
            return fine(NONE);
        }
        Standing s = places[desk.place];
        return s == null ? finding(NOTHING) : fine(desk.isAsTold(s) ? 1 : 0);
    }

    // ---- the line

    public int print(int v) {
        if (!isVoice(v)) {
            return BAD;
        }
        int met = goThrough(voices[v]);
        if (met != 0) {
            return finding(met);
        }
        line.tell(voices[v]);
        return fine(line.length);
    }

    public int read(int v) {
        if (!isVoice(v)) {
            return BAD;
        }
        int wrong = line.wrongPlace(draft);
        if (wrong != NONE) {
            return fine(WRONG_PLACE - wrong);
        }
        keep(v);
        voices[v].becomeAs(draft);
        return fine(draft.sizes[PITCHES]);
    }

    public int put(int i, int c) {
        if (!isWithin(i, 0, line.length) || i >= LINE || !isWithin(c, ' ', '~')) {
            return BAD;
        }
        line.characters[i] = c;
        line.length = Math.max(line.length, i + 1);
        return 1;
    }

    public int cutLine(int n) {
        if (!isWithin(n, 0, line.length)) {
            return BAD;
        }
        int had = line.length;
        line.length = n;
        return had;
    }

    public int character(int i) {
        return isWithin(i, 0, line.length - 1) ? line.characters[i] : NONE;
    }

    // ---- told (these change nothing, also not status())

    public int status() {
        return latestFinding;
    }

    public int trace(int i) {
        return isWithin(i, 0, Math.min(moment.traced, TOLD_OF_TRACE) - 1) ? moment.numbers[i] : NONE;
    }

    public int count(int what) {
        switch (what) {
            case 0: return faultsFound;
            case 1: return findings;
            case 2: return moment.traced;
            case 3: return voicesThere();
            case 4: return placesTaken();
            case 5: return desk.done;
            case 6: return rowsCopied;
            case 7: return isVoice(keptNumber) ? 1 : 0;
            default: return BAD;
        }
    }

    // ---- what the calls share

    private static boolean isWithin(int x, int from, int to) {
        return x >= from && x <= to;
    }

    private static boolean isVoice(int v) {
        return v >= 0 && v < VOICES;
    }

    private static boolean isRow(int row) {
        return row == PITCHES || row == LENGTHS;
    }

    private static boolean isPlace(int r) {
        return r >= 0 && r < PLACES;
    }

    private static boolean isFollower(int k, int by, int how) {
        return isWithin(k, 0, MOST_LATER) && isWithin(by, -MOST_BY, MOST_BY) && isWithin(how, 0, TWICE_AS_LONG);
    }

    private int finding(int met) {
        latestFinding = met;
        findings++;
        return -10 - met;
    }

    private int fine(int answer) {
        latestFinding = 0;
        return answer;
    }

    private void keep(int v) {
        kept.becomeAs(voices[v]);
        keptNumber = v;
    }

    private static int goThrough(Voice x) {
        if (!x.there) {
            return NOTHING;
        }
        return x.walk() ? 0 : BEYOND;
    }

    private int voicesThere() {
        int n = 0;
        for (int v = 0; v < VOICES; v++) {
            n += voices[v].there ? 1 : 0;
        }
        return n;
    }

    private int placesTaken() {
        int n = 0;
        for (int r = 0; r < PLACES; r++) {
            n += places[r] != null ? 1 : 0;
        }
        return n;
    }

    private static Rule newRule(int kind) {
        switch (kind) {
            case MOTION: return new Motion();
            case LEAP: return new Leap();
            case CADENCE: return new Cadence();
            default: return new Interval();
        }
    }

    private static boolean standsAs(Standing s, int as) {
        switch (as) {
            case INTERVAL: return s instanceof Interval;
            case MOTION: return s instanceof Motion;
            case LEAP: return s instanceof Leap;
            case CADENCE: return s instanceof Cadence;
            default: return s instanceof School;
        }
    }

    private static int lastOfBoth(Voice x, Voice y) {
        int t = TICKS - 1;
        while (t >= 0 && (x.at(t) == 0 || y.at(t) == 0)) {
            t--;
        }
        return t;
    }

    /** Once for each two VOICES: searched at each TICK anew it would be by far the dearest part of faults(). */
    private void findLasts() {
        for (int a = 0; a < VOICES; a++) {
            for (int b = a; b < VOICES; b++) {
                lasts[a * VOICES + b] = lastOfBoth(voices[a], voices[b]);
            }
        }
    }

    private void askPair(Standing s, int t, int a, int b) {
        moment.stand(voices[a], voices[b], t, lasts[a * VOICES + b]);
        if (!moment.bothSound()) {
            return;
        }
        moment.alone = a == b ? voices[a] : null;
        for (int k = 0; k < s.width(); k++) {
            Rule asked = s.ruleAt(k);
            if (asked != null && asked.listens(moment) && asked.tells(moment)) {
                noteFault(asked, s instanceof School ? k : NONE, a, b);
            }
        }
    }

    private void noteFault(Rule told, int seat, int a, int b) {
        faultsFound++;
        if (noted >= NOTED) {
            return;
        }
        faultRules[noted] = told;
        int at = noted * NUMBERS_OF_A_FAULT;
        faultNumbers[at] = seat;
        faultNumbers[at + 1] = moment.tick;
        faultNumbers[at + 2] = a;
        faultNumbers[at + 3] = b;
        noted++;
    }

    private int faultNumber(int i, int what) {
        return faultNumbers[i * NUMBERS_OF_A_FAULT + what];
    }

    private int firstFault(Voice x, Standing s, int k, int by, int how) {
        follower.follow(x, k, by, how);
        int last = lastOfBoth(x, follower);
        for (int t = 0; t < x.behindAll; t++) {
            moment.stand(x, follower, t, last);
            if (moment.bothSound() && tellsAny(s)) {
                return t;
            }
        }
        return NONE;
    }

    private boolean tellsAny(Standing s) {
        for (int k = 0; k < s.width(); k++) {
            Rule asked = s.ruleAt(k);
            if (asked != null && asked.listens(moment) && asked.tells(moment)) {
                return true;
            }
        }
        return false;
    }

    private int advance(int n) {
        for (int k = 0; k < n && !desk.isWorked(); k++) {
            Standing s = places[desk.place];
            if (s == null) {
                return finding(NOTHING);
            }
            desk.work(desk.left() - 1, s);
            desk.takeStep();
            if (desk.isWorked()) {
                desk.work(Desk.AHEAD_OF_ALL, s);
                desk.takeFresh(Desk.AHEAD_OF_ALL);
            }
        }
        return desk.isWorked() ? writeTune() : fine(desk.left());
    }

    private int writeTune() {
        if (!desk.hasTune()) {
            desk.ended = true;
            return fine(NONE);
        }
        Voice x = voices[desk.target];
        if (!x.there) {
            return finding(NOTHING);
        }
        if (!x.hasPart(PITCHES, 0, desk.notes()) || !x.hasPart(LENGTHS, 0, desk.notes())) {
            return finding(BEYOND);
        }
        keep(desk.target);
        desk.write(x);
        desk.ended = true;
        return fine(0);
    }

    // ---- classes inside

    /** Its ROWS keep their room when they are cut or made anew, so that a long run makes no new ones. */
    private static final class Voice {
        final int[][] rows = new int[2][NOTES];
        final int[] sizes = new int[2];
        /** What walk() found: good only until the VOICE changes. */
        final int[] ticks = new int[TICKS];
        int behindAll;
        boolean there;

        void renew(int n) {
            there = true;
            sizes[PITCHES] = n;
            sizes[LENGTHS] = n;
            Arrays.fill(rows[PITCHES], 0);
            Arrays.fill(rows[LENGTHS], 1);
        }

        void becomeAs(Voice other) {
            there = other.there;
            for (int row = PITCHES; row <= LENGTHS; row++) {
                sizes[row] = other.sizes[row];
                System.arraycopy(other.rows[row], 0, rows[row], 0, NOTES);
            }
        }

        boolean has(int row, int i) {
            return i >= 0 && i < sizes[row];
        }

        boolean hasPart(int row, int from, int n) {
            return from >= 0 && n >= 0 && n <= sizes[row] - from;
        }

        boolean walk() {
            if (sizes[LENGTHS] < sizes[PITCHES]) {
                return false;
            }
            int t = 0;
            for (int i = 0; i < sizes[PITCHES]; i++) {
                for (int k = 0; k < rows[LENGTHS][i] && t < TICKS; k++) {
                    ticks[t] = rows[PITCHES][i];
                    t++;
                }
            }
            behindAll = t;
            return true;
        }

        int at(int t) {
            return there && t >= 0 && t < behindAll ? ticks[t] : 0;
        }

        /** The PITCH at the first TICK behind t that has another one than t; 0 if it is SILENT there. */
        int otherBehind(int t) {
            int u = t + 1;
            while (u < behindAll && at(u) == at(t)) {
                u++;
            }
            return at(u);
        }

        int firstPitch() {
            for (int i = 0; i < sizes[PITCHES]; i++) {
                if (rows[PITCHES][i] != 0) {
                    return rows[PITCHES][i];
                }
            }
            return 0;
        }

        boolean canShift(int by) {
            for (int i = 0; i < sizes[PITCHES]; i++) {
                int pitch = rows[PITCHES][i];
                if (pitch != 0 && !isWithin(pitch + by, 1, HIGHEST)) {
                    return false;
                }
            }
            return true;
        }

        int shift(int by) {
            int went = 0;
            for (int i = 0; i < sizes[PITCHES]; i++) {
                if (rows[PITCHES][i] != 0) {
                    rows[PITCHES][i] += by;
                    went++;
                }
            }
            return went;
        }

        /** What THE FOLLOWER of this VOICE has at TICK t. */
        int followed(int t, int k, int by, int how) {
            if (t < k) {
                return 0;
            }
            int x = at(how == TWICE_AS_LONG ? (t - k) / 2 : t - k);
            if (x == 0) {
                return 0;
            }
            int y = how == UPSIDE_DOWN ? by + 2 * firstPitch() - x : x + by;
            return isWithin(y, 1, HIGHEST) ? y : 0;
        }

        /** Below END of the VOICE that is followed; what comes behind that is never asked for. */
        void follow(Voice other, int k, int by, int how) {
            there = true;
            behindAll = other.behindAll;
            for (int t = 0; t < behindAll; t++) {
                ticks[t] = other.followed(t, k, by, how);
            }
        }
    }

    /** What a RULE is asked about, as plain numbers: a PITCH that is tried in place of another one is just put here. */
    private static final class Moment {
        final int[] numbers = new int[TOLD_OF_TRACE];
        int traced;
        boolean open;
        int strongEach = 4;
        int tick;
        int p;
        int q;
        int pBefore;
        int qBefore;
        boolean last;
        /** The VOICE, if a and b are one; else null. */
        Voice alone;

        void openTrace() {
            traced = 0;
            open = true;
        }

        void mark(int body) {
            if (!open) {
                return;
            }
            if (traced < TOLD_OF_TRACE) {
                numbers[traced] = body;
            }
            traced++;
        }

        void stand(Voice x, Voice y, int t, int lastOfBoth) {
            tick = t;
            p = x.at(t);
            q = y.at(t);
            pBefore = x.at(t - 1);
            qBefore = y.at(t - 1);
            last = t == lastOfBoth;
            alone = null;
        }

        void comeFrom(int pThere, int qThere) {
            pBefore = pThere;
            qBefore = qThere;
        }

        boolean bothSound() {
            return p != 0 && q != 0;
        }

        boolean isStrong() {
            return tick % strongEach == 0;
        }

        int step() {
            return (p > q ? p - q : q - p) % 12;
        }

        boolean moved() {
            return pBefore != 0 && qBefore != 0 && (p != pBefore || q != qBefore);
        }

        int way() {
            int x = p - pBefore;
            int y = q - qBefore;
            if (x == 0 || y == 0) {
                return 1;
            }
            if (x > 0 != y > 0) {
                return 0;
            }
            return x == y ? 3 : 2;
        }
    }

    /** A RULE is asked like a SCHOOL of one SEAT, so that nobody who asks must know which it is. */
    private abstract static class Standing {
        abstract int width();

        abstract Rule ruleAt(int k);
    }

    private abstract static class Rule extends Standing {
        /** A bit a truth; by RESTS, COMES, ANSWERED. */
        final long[] truths = new long[3];

        abstract int kind();

        abstract boolean tells(Moment m);

        int width() {
            return 1;
        }

        Rule ruleAt(int k) {
            return this;
        }

        boolean holds(int as, int i) {
            return (truths[as] >> i & 1L) != 0;
        }

        void change(int as, int i, boolean is) {
            truths[as] = is ? truths[as] | 1L << i : truths[as] & ~(1L << i);
        }

        boolean listens(Moment m) {
            m.mark(10);
            return m.alone == null;
        }

        int mends(Moment m) {
            m.mark(20);
            return NONE;
        }
    }

    private static class Interval extends Rule {
        int kind() {
            return INTERVAL;
        }

        boolean tells(Moment m) {
            m.mark(1);
            return m.isStrong() && !holds(RESTS, m.step());
        }

        int mends(Moment m) {
            m.mark(21);
            int was = m.p;
            for (int far = 1; far <= WIDEST_MEND; far++) {
                m.p = was - far;
                if (m.p >= 1 && !tells(m)) {
                    return m.p;
                }
                m.p = was + far;
                if (m.p <= HIGHEST && !tells(m)) {
                    return m.p;
                }
            }
            return NONE;
        }
    }

    private static class Motion extends Interval {
        int kind() {
            return MOTION;
        }

        boolean tells(Moment m) {
            m.mark(2);
            return super.tells(m) || m.moved() && !holds(COMES, 12 * m.way() + m.step());
        }
    }

    private static final class Cadence extends Motion {
        int kind() {
            return CADENCE;
        }

        boolean tells(Moment m) {
            m.mark(3);
            return super.tells(m) || m.last && m.step() != 0;
        }

        int mends(Moment m) {
            m.mark(22);
            int was = m.p;
            m.p = m.q;
            if (!tells(m)) {
                return m.q;
            }
            m.p = was;
            return super.mends(m);
        }
    }

    private static final class Leap extends Rule {
        int kind() {
            return LEAP;
        }

        boolean listens(Moment m) {
            m.mark(11);
            return m.alone != null;
        }

        boolean tells(Moment m) {
            m.mark(4);
            if (m.alone == null || m.pBefore == 0 || m.pBefore == m.p || !wantsAnswer(m.pBefore, m.p)) {
                return false;
            }
            int next = m.alone.otherBehind(m.tick);
            int back = m.p > m.pBefore ? m.p - next : next - m.p;
            return next != 0 && back != 1 && back != 2;
        }

        boolean wantsAnswer(int from, int to) {
            return holds(ANSWERED, Math.min(Math.abs(to - from), WIDEST_LEAP));
        }
    }

    private static final class School extends Standing {
        static final int ANY = 0, INTERVALS = 1, LEAPS = 2;
        final int type;
        final Rule[] seats;

        School(int type, int n) {
            this.type = type;
            this.seats = new Rule[n];
        }

        int width() {
            return seats.length;
        }

        Rule ruleAt(int k) {
            return k >= 0 && k < seats.length ? seats[k] : null;
        }

        boolean isFor(Standing s) {
            return type == ANY || (type == INTERVALS ? s instanceof Interval : s instanceof Leap);
        }
    }

    /**
     * Where tunes are set: WEIGHTS and KEY, which stay, and the SETTING, if there is one. The tune itself is
     * worked like a NOTE ahead of all to which none is JOINED: its LEAST is the WEIGHT, its CHOICE the first PITCH.
     */
    private static final class Desk {
        static final int AHEAD_OF_ALL = -1;
        private static final int ROW = (WIDEST + 1) * DUES, FRESH = NOTES;

        final Moment m;
        final int[] weights = {1, 1, 1};
        int keys = ALL_KEYS;
        boolean begun;
        boolean ended;
        int target;
        int place;
        boolean above;
        int low = 1;
        int high = 1;
        int done;
        int lastHeardTick;
        final Voice given = new Voice();
        final int[] begins = new int[NOTES];
        /** One row a NOTE, one ahead of them all, and the fresh one, which check() compares and a STEP takes. */
        final int[] leasts = new int[(NOTES + 2) * ROW];
        /** A CHOICE with the DUE behind it: the LEAPS that made the DUE may be gone when the tune is written. */
        final int[] choices = new int[(NOTES + 2) * ROW];
        final int[] tunesFrom = new int[(NOTES + 2) * ROW];

        Desk(Moment m) {
            this.m = m;
        }

        void begin(Voice g, boolean above, int low, int high) {
            given.becomeAs(g);
            this.above = above;
            this.low = low;
            this.high = high;
            begun = true;
            ended = false;
            done = 0;
            int t = 0;
            for (int i = 0; i < notes(); i++) {
                begins[i] = t;
                t += given.rows[LENGTHS][i];
                lastHeardTick = isHeard(i) ? t - 1 : lastHeardTick;
            }
            if (notes() == 0) {
                work(AHEAD_OF_ALL, null);
                takeFresh(AHEAD_OF_ALL);
            }
        }

        int notes() {
            return given.sizes[PITCHES];
        }

        int left() {
            return notes() - done;
        }

        boolean isWorked() {
            return begun && done == notes();
        }

        boolean isHeard(int i) {
            return given.has(PITCHES, i) && given.rows[PITCHES][i] != 0 && given.rows[LENGTHS][i] != 0;
        }

        boolean takes(int p, int d) {
            return isWithin(p, low, high) && isWithin(d, 0, DUES - 1);
        }

        boolean hasWorked(int i) {
            return begun && i >= left() && isHeard(i);
        }

        int cell(int i, int p, int d) {
            return (i + 1) * ROW + (p - low) * DUES + d;
        }

        int tuneWeight() {
            return leasts[cell(AHEAD_OF_ALL, low, 0)];
        }

        boolean hasTune() {
            return tuneWeight() < FAR;
        }

        int tunes() {
            return tunesFrom[cell(AHEAD_OF_ALL, low, 0)];
        }

        int nextHeard(int i) {
            int j = i + 1;
            while (j < notes() && !isHeard(j)) {
                j++;
            }
            return j;
        }

        void takeStep() {
            takeFresh(left() - 1);
            done++;
        }

        void takeFresh(int i) {
            int to = cell(i, low, 0);
            int from = cell(FRESH, low, 0);
            System.arraycopy(leasts, from, leasts, to, ROW);
            System.arraycopy(choices, from, choices, to, ROW);
            System.arraycopy(tunesFrom, from, tunesFrom, to, ROW);
        }

        /** Into the fresh row. Only the first TICK of a NOTE knows what is ahead of it: the others are asked once. */
        void work(int i, Standing s) {
            if (i != AHEAD_OF_ALL && !isHeard(i)) {
                return;
            }
            int j = nextHeard(i);
            boolean hasNext = s != null && j < notes();
            boolean joined = i >= 0 && hasNext && begins[j] == begins[i] + given.rows[LENGTHS][i];
            int steady = 0;
            for (int q = low; hasNext && q <= high; q++) {
                m.comeFrom(given.rows[PITCHES][j], q);
                if (isAllowed(j, q) && !refuses(s, j, q, begins[j] + 1, begins[j] + given.rows[LENGTHS][j])) {
                    steady |= 1 << (q - low);
                }
            }
            int top = i == AHEAD_OF_ALL ? low : high;
            for (int p = low; p <= top; p++) {
                openFresh(p, hasNext);
                for (int q = low; hasNext && q <= high; q++) {
                    m.comeFrom(joined ? given.rows[PITCHES][i] : 0, joined ? p : 0);
                    if ((steady >> (q - low) & 1) == 1 && !refuses(s, j, q, begins[j], begins[j] + 1)) {
                        offer(s, j, joined, p, q);
                    }
                }
                closeFresh(p, i != AHEAD_OF_ALL && (p == low || p == high) ? weights[2] : 0);
            }
        }

        boolean isAllowed(int j, int q) {
            int g = given.rows[PITCHES][j];
            return (keys >> (q % 12) & 1) == 1 && (above ? q >= g : q <= g);
        }

        boolean refuses(Standing s, int j, int q, int from, int to) {
            m.open = false;
            m.alone = null;
            m.p = given.rows[PITCHES][j];
            m.q = q;
            for (int t = from; t < to; t++) {
                m.tick = t;
                m.last = t == lastHeardTick;
                for (int k = 0; k < s.width(); k++) {
                    Rule asked = s.ruleAt(k);
                    if (asked != null && asked.listens(m) && asked.tells(m)) {
                        return true;
                    }
                }
            }
            return false;
        }

        void openFresh(int p, boolean hasNext) {
            int at = cell(FRESH, p, 0);
            for (int d = 0; d < DUES; d++) {
                leasts[at + d] = hasNext ? FAR : 0;
                choices[at + d] = 0;
                tunesFrom[at + d] = hasNext ? 0 : 1;
            }
        }

        void offer(Standing s, int j, boolean joined, int p, int q) {
            int between = joined ? weightBetween(p, q) : 0;
            int due = joined ? dueBehind(s, p, q) : 0;
            for (int d = 0; d < DUES; d++) {
                if (joined && !mayCome(d, p, q)) {
                    continue;
                }
                int e = joined && p == q ? d : due;
                int at = cell(FRESH, p, d);
                int next = cell(j, q, e);
                int sum = between + leasts[next];
                if (sum < leasts[at]) {
                    leasts[at] = sum;
                    choices[at] = q * DUES + e;
                }
                tunesFrom[at] = Math.min(FAR, tunesFrom[at] + tunesFrom[next]);
            }
        }

        void closeFresh(int p, int edge) {
            int at = cell(FRESH, p, 0);
            for (int d = 0; d < DUES; d++) {
                leasts[at + d] = Math.min(FAR, leasts[at + d] + edge);
            }
        }

        int weightBetween(int p, int q) {
            return weights[0] * Math.max(0, Math.abs(p - q) - 2) + (p == q ? weights[1] : 0);
        }

        boolean mayCome(int d, int p, int q) {
            int far = d == DOWN ? p - q : q - p;
            return d == 0 || p == q || far == 1 || far == 2;
        }

        int dueBehind(Standing s, int p, int q) {
            for (int k = 0; p != q && k < s.width(); k++) {
                if (s.ruleAt(k) instanceof Leap leap && leap.wantsAnswer(p, q)) {
                    return q > p ? DOWN : UP;
                }
            }
            return 0;
        }

        boolean isAsTold(Standing s) {
            for (int i = AHEAD_OF_ALL; i < notes(); i++) {
                if (i != AHEAD_OF_ALL && !isHeard(i)) {
                    continue;
                }
                work(i, s);
                int cells = i == AHEAD_OF_ALL ? 1 : (high - low + 1) * DUES;
                for (int k = 0; k < cells; k++) {
                    if (leasts[cell(i, low, 0) + k] != leasts[cell(FRESH, low, 0) + k]) {
                        return false;
                    }
                }
            }
            return true;
        }

        void write(Voice x) {
            int choice = choices[cell(AHEAD_OF_ALL, low, 0)];
            for (int i = 0; i < notes(); i++) {
                x.rows[LENGTHS][i] = given.rows[LENGTHS][i];
                x.rows[PITCHES][i] = 0;
                int p = choice / DUES;
                if (isHeard(i) && isWithin(p, low, high)) {
                    x.rows[PITCHES][i] = p;
                    choice = choices[cell(i, p, choice % DUES)];
                }
            }
        }
    }

    private static final class Line {
        final int[] characters = new int[LINE];
        int length;
        private int at;

        void tell(Voice x) {
            length = 0;
            for (int i = 0; i < x.sizes[PITCHES]; i++) {
                if (i > 0) {
                    add(' ');
                }
                addPitch(x.rows[PITCHES][i]);
                add(':');
                add('0' + x.rows[LENGTHS][i]);
            }
        }

        private void addPitch(int pitch) {
            if (pitch == 0) {
                add('R');
                return;
            }
            if (pitch >= 100) {
                add('0' + pitch / 100);
            }
            if (pitch >= 10) {
                add('0' + pitch / 10 % 10);
            }
            add('0' + pitch % 10);
        }

        private void add(int c) {
            if (length < LINE) {
                characters[length] = c;
                length++;
            }
        }

        /** The place of the first character that can not come; NONE: x is as THE LINE tells. */
        int wrongPlace(Voice x) {
            x.renew(0);
            at = 0;
            for (int i = 0; i < NOTES && length > 0; i++) {
                int start = at;
                int pitch = takePitch();
                if (pitch < 0) {
                    return start;
                }
                if (here() != ':') {
                    return at;
                }
                at++;
                int ticks = here() - '0';
                if (!isWithin(ticks, 0, LONGEST)) {
                    return at;
                }
                at++;
                x.rows[PITCHES][i] = pitch;
                x.rows[LENGTHS][i] = ticks;
                x.sizes[PITCHES] = i + 1;
                x.sizes[LENGTHS] = i + 1;
                if (at == length) {
                    return NONE;
                }
                if (here() != ' ' || i == NOTES - 1) {
                    return at;
                }
                at++;
            }
            return NONE;
        }

        private int here() {
            return at < length ? characters[at] : 0;
        }

        /** A number is read to the end of its digits, so that 1200 is not taken for 120 and a 0. */
        private int takePitch() {
            if (here() == 'R') {
                at++;
                return 0;
            }
            int start = at;
            int pitch = 0;
            while (at < length && isWithin(here(), '0', '9')) {
                pitch = Math.min(10 * pitch + here() - '0', HIGHEST + 1);
                at++;
            }
            return at - start <= 3 && isWithin(pitch, 1, HIGHEST) ? pitch : -1;
        }
    }
}
