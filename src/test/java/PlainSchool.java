import java.util.ArrayList;
import java.util.Arrays;
import java.util.List;
import java.util.Objects;
import java.util.regex.Matcher;
import java.util.regex.Pattern;

/**
 * The document told a second time, as plainly as can be and with no thought of speed, to hold TuneSchool against.
 * Here the machine itself has its say: what it throws is caught, and is the FINDING that the document means by it.
 */
public final class PlainSchool {
    private static final int BAD = -1, NONE = -2, FAR = 1000000000;
    private static final Pattern HEAD = Pattern.compile("R|[0-9]+");

    private interface Act {
        int run();
    }

    private record Voice(int[] pitches, int[] lengths) {
        int[][] rows() {
            return new int[][] {pitches, lengths};
        }

        Voice twin() {
            return new Voice(pitches.clone(), lengths.clone());
        }
    }

    private record Fault(Rule rule, int seat, int tick, int a, int b) {
    }

    private interface Pitches {
        /** 0: SILENT. */
        int at(int t);
    }

    private class Rule {
        boolean listens(boolean two) {
            mark(10);
            return two;
        }

        boolean tells(Pitches a, Pitches b, int t) {
            throw new AssertionError();
        }

        int mends(Pitches a, Pitches b, int t) {
            mark(20);
            return NONE;
        }
    }

    private class Interval extends Rule {
        final boolean[] rests = new boolean[12];

        @Override
        boolean tells(Pitches a, Pitches b, int t) {
            mark(1);
            return t % strong == 0 && !rests[distance(a.at(t), b.at(t)) % 12];
        }

        @Override
        int mends(Pitches a, Pitches b, int t) {
            mark(21);
            for (int far = 1; far <= 24; far++) {
                for (int p : new int[] {a.at(t) - far, a.at(t) + far}) {
                    if (1 <= p && p <= 120 && !tells(u -> u == t ? p : a.at(u), b, t)) {
                        return p;
                    }
                }
            }
            return NONE;
        }
    }

    private class Motion extends Interval {
        final boolean[] comes = new boolean[48];

        @Override
        boolean tells(Pitches a, Pitches b, int t) {
            mark(2);
            if (super.tells(a, b, t)) {
                return true;
            }
            if (a.at(t - 1) == 0 || b.at(t - 1) == 0) {
                return false;
            }
            int x = a.at(t) - a.at(t - 1);
            int y = b.at(t) - b.at(t - 1);
            if (x == 0 && y == 0) {
                return false;
            }
            int way = x == y ? 3 : x * y > 0 ? 2 : x * y == 0 ? 1 : 0;
            return !comes[12 * way + distance(a.at(t), b.at(t)) % 12];
        }
    }

    private class Cadence extends Motion {
        @Override
        boolean tells(Pitches a, Pitches b, int t) {
            mark(3);
            if (super.tells(a, b, t)) {
                return true;
            }
            boolean last = true;
            for (int u = t + 1; u < 192; u++) {
                last &= a.at(u) == 0 || b.at(u) == 0;
            }
            return last && distance(a.at(t), b.at(t)) % 12 != 0;
        }

        @Override
        int mends(Pitches a, Pitches b, int t) {
            mark(22);
            int q = b.at(t);
            return tells(u -> u == t ? q : a.at(u), b, t) ? super.mends(a, b, t) : q;
        }
    }

    private class Leap extends Rule {
        final boolean[] answered = new boolean[25];

        @Override
        boolean listens(boolean two) {
            mark(11);
            return !two;
        }

        @Override
        boolean tells(Pitches a, Pitches b, int t) {
            mark(4);
            int p = a.at(t);
            int came = a.at(t - 1);
            if (came == 0 || came == p || !answered[Math.min(24, distance(came, p))]) {
                return false;
            }
            int u = t + 1;
            while (a.at(u) == p) {
                u++;
            }
            int towards = p > came ? -1 : 1;
            return a.at(u) != 0 && a.at(u) != p + towards && a.at(u) != p + 2 * towards;
        }
    }

    private static int distance(int p, int q) {
        return Math.max(p, q) - Math.min(p, q);
    }

    private final Voice[] voices = new Voice[6];
    /** Each one a Rule, or the SEATS of a SCHOOL: an array of Rule, Interval or Leap. */
    private final Object[] places = new Object[16];
    private final List<Integer> trace = new ArrayList<>();
    private boolean tracing = true;
    private List<Fault> faults = new ArrayList<>();
    private int status;
    private int findings;
    private int copied;
    private boolean isKept;
    private int keptNumber;
    private Voice kept;
    private int strong = 4;
    private int key = 4095;
    private final int[] weights = {1, 1, 1};
    private String line = "";
    private Setting setting;

    private int find(int met) {
        status = met;
        findings++;
        return -10 - met;
    }

    private int act(Act act) {
        try {
            int answer = act.run();
            status = 0;
            return answer;
        } catch (NullPointerException e) {
            return find(1);
        } catch (IndexOutOfBoundsException e) {
            return find(2);
        } catch (ClassCastException e) {
            return find(3);
        } catch (ArrayStoreException e) {
            return find(4);
        } catch (NegativeArraySizeException e) {
            return find(5);
        } catch (IllegalStateException e) {
            return find(7);
        } catch (IllegalArgumentException e) {
            return find(6);
        }
    }

    private void mark(int body) {
        if (tracing) {
            trace.add(body);
        }
    }

    private static boolean isNot(int x, int from, int to) {
        return x < from || x > to;
    }

    private void keep(int v) {
        isKept = true;
        keptNumber = v;
        kept = voices[v] == null ? null : voices[v].twin();
    }

    /** Goes through a VOICE: its PITCHES tick by tick. */
    private static List<Integer> through(Voice x) {
        List<Integer> ticks = new ArrayList<>();
        for (int i = 0; i < x.pitches.length; i++) {
            int pitch = x.pitches[i];
            for (int k = x.lengths[i]; k > 0; k--) {
                ticks.add(pitch);
            }
        }
        return ticks;
    }

    private static Pitches pitches(List<Integer> ticks) {
        return t -> t < 0 || t >= ticks.size() ? 0 : ticks.get(t);
    }

    // ---- voices

    public int voice(int v, int n) {
        if (isNot(v, 0, 5) || n > 24) {
            return BAD;
        }
        return act(() -> {
            Voice x = new Voice(new int[n], new int[n]);
            Arrays.fill(x.lengths, 1);
            keep(v);
            voices[v] = x;
            return 1;
        });
    }

    public int drop(int v) {
        if (isNot(v, 0, 5)) {
            return BAD;
        }
        return act(() -> {
            keep(v);
            int was = voices[v] == null ? 0 : 1;
            voices[v] = null;
            return was;
        });
    }

    public int note(int v, int i, int pitch, int length) {
        if (isNot(v, 0, 5) || isNot(pitch, 0, 120) || isNot(length, 0, 8)) {
            return BAD;
        }
        return act(() -> {
            Voice x = voices[v].twin();
            x.pitches[i] = pitch;
            x.lengths[i] = length;
            keep(v);
            voices[v] = x;
            return 1;
        });
    }

    public int cut(int v, int row, int n) {
        if (isNot(v, 0, 5) || isNot(row, 0, 1) || n > 24) {
            return BAD;
        }
        return act(() -> {
            int[] old = voices[v].rows()[row];
            int[] cut = new int[n];
            System.arraycopy(old, 0, cut, 0, n);
            keep(v);
            voices[v] = row == 0 ? new Voice(cut, voices[v].lengths) : new Voice(voices[v].pitches, cut);
            return old.length;
        });
    }

    public int size(int v, int row) {
        return isNot(v, 0, 5) || isNot(row, 0, 1) ? BAD : act(() -> voices[v].rows()[row].length);
    }

    public int number(int v, int row, int i) {
        return isNot(v, 0, 5) || isNot(row, 0, 1) ? BAD : act(() -> voices[v].rows()[row][i]);
    }

    public int end(int v) {
        return isNot(v, 0, 5) ? BAD : act(() -> through(voices[v]).size());
    }

    public int sounds(int v, int t) {
        return isNot(v, 0, 5) || t < 0 ? BAD : act(() -> pitches(through(voices[v])).at(t));
    }

    public int transpose(int v, int by) {
        if (isNot(v, 0, 5) || isNot(by, -60, 60)) {
            return BAD;
        }
        return act(() -> {
            Voice x = voices[v].twin();
            int went = 0;
            for (int i = 0; i < x.pitches.length; i++) {
                if (x.pitches[i] != 0) {
                    went++;
                    x.pitches[i] += by;
                    if (isNot(x.pitches[i], 1, 120)) {
                        throw new IllegalArgumentException();
                    }
                }
            }
            keep(v);
            voices[v] = x;
            return went;
        });
    }

    public int copy(int from, int i, int to, int k, int n) {
        if (isNot(from, 0, 5) || isNot(to, 0, 5)) {
            return BAD;
        }
        copied = 0;
        return act(() -> {
            Voice x = voices[from].twin();
            Voice y = voices[to].twin();
            System.arraycopy(x.pitches, i, y.pitches, k, n);
            keep(to);
            voices[to] = y;
            copied = 1;
            System.arraycopy(x.lengths, i, y.lengths, k, n);
            copied = 2;
            return n;
        });
    }

    public int undo() {
        return act(() -> {
            if (!isKept) {
                throw new IllegalStateException();
            }
            voices[keptNumber] = kept;
            isKept = false;
            return 1;
        });
    }

    // ---- rules

    public int rule(int r, int kind) {
        if (isNot(r, 0, 15) || isNot(kind, 0, 3)) {
            return BAD;
        }
        return act(() -> {
            places[r] = switch (kind) {
                case 0 -> new Interval();
                case 1 -> new Motion();
                case 2 -> new Leap();
                default -> new Cadence();
            };
            return 1;
        });
    }

    public int school(int r, int type, int n) {
        if (isNot(r, 0, 15) || isNot(type, 0, 2) || n > 8) {
            return BAD;
        }
        return act(() -> {
            places[r] = type == 0 ? new Rule[n] : type == 1 ? new Interval[n] : new Leap[n];
            return 1;
        });
    }

    public int clear(int r) {
        if (isNot(r, 0, 15)) {
            return BAD;
        }
        return act(() -> {
            int was = places[r] == null ? 0 : 1;
            places[r] = null;
            return was;
        });
    }

    public int truth(int r, int as, int i, boolean is) {
        if (isNot(r, 0, 15) || isNot(as, 0, 2)) {
            return BAD;
        }
        return act(() -> {
            boolean[] truths = as == 0 ? ((Interval) places[r]).rests : as == 1 ? ((Motion) places[r]).comes
                    : ((Leap) places[r]).answered;
            int was = truths[i] ? 1 : 0;
            truths[i] = is;
            return was;
        });
    }

    public int is(int r, int as) {
        if (isNot(r, 0, 15) || isNot(as, 0, 4)) {
            return BAD;
        }
        Class<?>[] classes = {Interval.class, Motion.class, Leap.class, Cadence.class, Rule[].class};
        return act(() -> classes[as].isInstance(places[r]) ? 1 : 0);
    }

    public int seat(int s, int k, int r) {
        if (isNot(s, 0, 15) || isNot(r, 0, 15)) {
            return BAD;
        }
        return act(() -> {
            Rule[] seats = (Rule[]) places[s];
            Rule rule = (Rule) places[r];
            seats[k] = rule;
            return 1;
        });
    }

    public int seated(int s, int k) {
        if (isNot(s, 0, 15)) {
            return BAD;
        }
        return act(() -> {
            Rule rule = ((Rule[]) places[s])[k];
            return rule == null ? NONE : rule instanceof Cadence ? 3 : rule instanceof Motion ? 1
                    : rule instanceof Interval ? 0 : 2;
        });
    }

    public int strong(int m) {
        if (isNot(m, 1, 16)) {
            return BAD;
        }
        int was = strong;
        strong = m;
        return act(() -> was);
    }

    public int key(int bits) {
        if (isNot(bits, 0, 4095)) {
            return BAD;
        }
        int was = key;
        key = bits;
        return act(() -> was);
    }

    public int weight(int k, int w) {
        if (isNot(k, 0, 2) || isNot(w, 0, 9)) {
            return BAD;
        }
        int was = weights[k];
        weights[k] = w;
        return act(() -> was);
    }

    // ---- faults

    private static Rule[] rulesOf(Object place) {
        return place instanceof Rule rule ? new Rule[] {rule} : ((Rule[]) place).clone();
    }

    private static Object something(Object place) {
        return Objects.requireNonNull(place);
    }

    public int faults(int r) {
        if (isNot(r, 0, 15)) {
            return BAD;
        }
        trace.clear();
        return act(() -> {
            Pitches[] all = new Pitches[6];
            for (int v = 0; v < 6; v++) {
                all[v] = voices[v] == null ? t -> 0 : pitches(through(voices[v]));
            }
            Rule[] rules = rulesOf(something(places[r]));
            List<Fault> found = new ArrayList<>();
            for (int t = 0; t < 192; t++) {
                for (int a = 0; a < 6; a++) {
                    for (int b = a; b < 6; b++) {
                        for (int k = 0; k < rules.length && all[a].at(t) != 0 && all[b].at(t) != 0; k++) {
                            if (rules[k] != null && rules[k].listens(a != b) && rules[k].tells(all[a], all[b], t)) {
                                found.add(new Fault(rules[k], places[r] instanceof Rule ? NONE : k, t, a, b));
                            }
                        }
                    }
                }
            }
            faults = found;
            return found.size();
        });
    }

    public int fault(int i, int what) {
        if (isNot(what, 0, 3)) {
            return BAD;
        }
        if (isNot(i, 0, Math.min(200, faults.size()) - 1)) {
            return NONE;
        }
        Fault f = faults.get(i);
        return new int[] {f.seat, f.tick, f.a, f.b}[what];
    }

    public int mend(int i) {
        trace.clear();
        return act(() -> {
            if (isNot(i, 0, Math.min(200, faults.size()) - 1)) {
                return NONE;
            }
            Fault f = faults.get(i);
            Pitches a = voices[f.a] == null ? t -> 0 : pitches(through(voices[f.a]));
            Pitches b = voices[f.b] == null ? t -> 0 : pitches(through(voices[f.b]));
            return a.at(f.tick) == 0 || b.at(f.tick) == 0 ? NONE : f.rule.mends(a, b, f.tick);
        });
    }

    private Pitches follower(int v, int k, int by, int how) {
        Pitches led = pitches(through(voices[v]));
        int first = 0;
        for (int i = voices[v].pitches.length - 1; i >= 0; i--) {
            first = voices[v].pitches[i] != 0 ? voices[v].pitches[i] : first;
        }
        int axis = first;
        return t -> {
            int x = led.at(how == 2 ? Math.floorDiv(t - k, 2) : t - k);
            int y = how == 1 ? by + axis + axis - x : x + by;
            return t < k || x == 0 || isNot(y, 1, 120) ? 0 : y;
        };
    }

    private int canonFault(int v, Object place, int k, int by, int how) {
        Pitches a = pitches(through(voices[v]));
        Pitches b = follower(v, k, by, how);
        for (int t = 0; t < through(voices[v]).size(); t++) {
            for (Rule rule : rulesOf(place)) {
                if (rule != null && a.at(t) != 0 && b.at(t) != 0 && rule.listens(true) && rule.tells(a, b, t)) {
                    return t;
                }
            }
        }
        return NONE;
    }

    public int canon(int v, int r, int k, int by, int how) {
        if (isNot(v, 0, 5) || isNot(r, 0, 15) || isNot(k, 0, 60) || isNot(by, -60, 60) || isNot(how, 0, 2)) {
            return BAD;
        }
        trace.clear();
        return act(() -> {
            through(voices[v]);
            return canonFault(v, something(places[r]), k, by, how);
        });
    }

    public int canons(int v, int r, int by, int how) {
        if (isNot(v, 0, 5) || isNot(r, 0, 15) || isNot(by, -60, 60) || isNot(how, 0, 2)) {
            return BAD;
        }
        trace.clear();
        return act(() -> {
            through(voices[v]);
            something(places[r]);
            int bits = 0;
            for (int k = 1; k <= 20; k++) {
                bits += canonFault(v, places[r], k, by, how) == NONE ? 1 << k - 1 : 0;
            }
            return bits;
        });
    }

    public int follows(int v, int t, int k, int by, int how) {
        if (isNot(v, 0, 5) || isNot(t, 0, 1000) || isNot(k, 0, 60) || isNot(by, -60, 60) || isNot(how, 0, 2)) {
            return BAD;
        }
        return act(() -> follower(v, k, by, how).at(t));
    }

    // ---- settings

    private class Setting {
        int v;
        int place;
        boolean above;
        int low;
        int high;
        int[] pitches;
        int[] lengths;
        int[] begins;
        int done;
        boolean ended;
        int weight;
        int first;
        long tunes;
        int[][][] leasts;
        int[][][] choices;
        int[][][] dues;
        long[][][] counts;

        boolean heard(int i) {
            return pitches[i] != 0 && lengths[i] != 0;
        }

        int next(int i) {
            int j = i + 1;
            while (j < pitches.length && !heard(j)) {
                j++;
            }
            return j;
        }

        /** i: the NOTE of p, or -1: nothing. */
        boolean fits(int j, int q, int i, int p) {
            if ((key >> q % 12 & 1) == 0 || (above ? q < pitches[j] : q > pitches[j])) {
                return false;
            }
            int last = begins[j];
            for (int n = 0; n < pitches.length; n++) {
                last = heard(n) ? begins[n] + lengths[n] - 1 : last;
            }
            int end = last;
            int begin = begins[j];
            Pitches g = t -> t >= begin && t < begin + lengths[j] ? pitches[j] : t == begin - 1 && i >= 0 ? pitches[i]
                    : t == end ? 1 : 0;
            Pitches tune = t -> t >= begin && t < begin + lengths[j] ? q : t == begin - 1 && i >= 0 ? p
                    : t == end ? 1 : 0;
            tracing = false;
            boolean fits = true;
            for (int t = begin; t < begin + lengths[j]; t++) {
                for (Rule rule : rulesOf(places[place])) {
                    fits &= rule == null || !rule.listens(true) || !rule.tells(g, tune, t);
                }
            }
            tracing = true;
            return fits;
        }

        int due(int p, int q) {
            int e = 0;
            for (Rule rule : rulesOf(places[place])) {
                if (rule instanceof Leap leap && leap.answered[Math.min(24, distance(p, q))]) {
                    e = q > p ? 1 : 2;
                }
            }
            return e;
        }

        /** LEAST, CHOICE, the DUE behind it, how many. */
        long[] worked(int i, int p, int d) {
            int edge = p == low || p == high ? weights[2] : 0;
            int j = next(i);
            if (j == pitches.length) {
                return new long[] {edge, 0, 0, 1};
            }
            boolean joined = begins[j] == begins[i] + lengths[i];
            long[] best = {FAR, 0, 0, 0};
            for (int q = high; q >= low; q--) {
                boolean down = p - q == 1 || p - q == 2;
                boolean up = q - p == 1 || q - p == 2;
                boolean may = !joined || q == p || d == 0 || d == 1 && down || d == 2 && up;
                if (!may || !fits(j, q, joined ? i : -1, p)) {
                    continue;
                }
                int e = !joined ? 0 : q == p ? d : due(p, q);
                int between = !joined ? 0 : q == p ? weights[1] : weights[0] * Math.max(0, distance(p, q) - 2);
                long sum = (long) between + leasts[j][q - low][e];
                if (sum <= best[0]) {
                    best = new long[] {sum, q, e, best[3]};
                }
                best[3] = Math.min(FAR, best[3] + counts[j][q - low][e]);
            }
            best[0] = Math.min(FAR, best[0] + edge);
            return best;
        }

        void step() {
            int i = pitches.length - done - 1;
            for (int p = low; p <= high && heard(i); p++) {
                for (int d = 0; d < 3; d++) {
                    long[] w = worked(i, p, d);
                    leasts[i][p - low][d] = (int) w[0];
                    choices[i][p - low][d] = (int) w[1];
                    dues[i][p - low][d] = (int) w[2];
                    counts[i][p - low][d] = w[3];
                }
            }
            done++;
            if (done == pitches.length) {
                end();
            }
        }

        int tuneWeight() {
            int j = next(-1);
            int lowest = j == pitches.length ? 0 : FAR;
            for (int q = low; q <= high && j < pitches.length; q++) {
                lowest = fits(j, q, -1, 0) ? Math.min(lowest, leasts[j][q - low][0]) : lowest;
            }
            return lowest;
        }

        void end() {
            weight = tuneWeight();
            int j = next(-1);
            tunes = j == pitches.length ? 1 : 0;
            for (int q = high; q >= low && j < pitches.length; q--) {
                if (fits(j, q, -1, 0)) {
                    first = leasts[j][q - low][0] == weight ? q : first;
                    tunes = Math.min(FAR, tunes + counts[j][q - low][0]);
                }
            }
        }

        void write() {
            Voice x = voices[v].twin();
            int p = first;
            int d = 0;
            for (int i = 0; i < pitches.length; i++) {
                x.pitches[i] = heard(i) ? p : 0;
                x.lengths[i] = lengths[i];
                if (heard(i) && next(i) < pitches.length) {
                    int e = dues[i][p - low][d];
                    p = choices[i][p - low][d];
                    d = e;
                }
            }
            keep(v);
            voices[v] = x;
        }
    }

    public int set(int v, int g, int r, boolean above, int low, int high, int n) {
        if (isNot(v, 0, 5) || isNot(g, 0, 5) || isNot(r, 0, 15) || isNot(n, 0, 30) || isNot(low, 1, 120)
                || isNot(high, 1, 120) || low > high || high - low > 15) {
            return BAD;
        }
        return act(() -> {
            through(voices[g]);
            Setting s = new Setting();
            s.v = v;
            s.place = r;
            s.above = above;
            s.low = low;
            s.high = high;
            s.pitches = voices[g].pitches.clone();
            s.lengths = voices[g].lengths.clone();
            int notes = s.pitches.length;
            s.begins = new int[notes];
            for (int i = 1; i < notes; i++) {
                s.begins[i] = s.begins[i - 1] + s.lengths[i - 1];
            }
            s.leasts = new int[notes][16][3];
            s.choices = new int[notes][16][3];
            s.dues = new int[notes][16][3];
            s.counts = new long[notes][16][3];
            setting = s;
            if (notes == 0) {
                s.end();
            }
            return going(n);
        });
    }

    private int going(int n) {
        Setting s = setting;
        for (int k = 0; k < n && s.done < s.pitches.length; k++) {
            something(places[s.place]);
            s.step();
        }
        if (s.done < s.pitches.length) {
            return s.pitches.length - s.done;
        }
        if (s.weight == FAR) {
            s.ended = true;
            return NONE;
        }
        s.write();
        s.ended = true;
        return 0;
    }

    public int goOn(int n) {
        if (isNot(n, 0, 30)) {
            return BAD;
        }
        return act(() -> {
            if (setting == null || setting.ended) {
                throw new IllegalStateException();
            }
            return going(n);
        });
    }

    private boolean isWorked() {
        return setting != null && setting.done == setting.pitches.length;
    }

    public int least() {
        return isWorked() && setting.weight != FAR ? setting.weight : NONE;
    }

    public int many() {
        return isWorked() ? (int) setting.tunes : NONE;
    }

    public int row(int i, int p, int d) {
        if (setting == null) {
            return NONE;
        }
        if (isNot(p, setting.low, setting.high) || isNot(d, 0, 2)) {
            return BAD;
        }
        int notes = setting.pitches.length;
        return isNot(i, notes - setting.done, notes - 1) || !setting.heard(i) ? NONE
                : setting.leasts[i][p - setting.low][d];
    }

    public int spoil(int i, int p, int d, int w) {
        if (setting == null) {
            return NONE;
        }
        if (isNot(w, 0, FAR)) {
            return BAD;
        }
        int was = row(i, p, d);
        if (was == BAD || was == NONE || !isWorked()) {
            return was == BAD ? BAD : NONE;
        }
        setting.leasts[i][p - setting.low][d] = w;
        return was;
    }

    public int check() {
        return act(() -> {
            if (!isWorked()) {
                return NONE;
            }
            something(places[setting.place]);
            boolean right = setting.weight == setting.tuneWeight();
            for (int i = 0; i < setting.pitches.length; i++) {
                for (int p = setting.low; p <= setting.high && setting.heard(i); p++) {
                    for (int d = 0; d < 3; d++) {
                        right &= setting.leasts[i][p - setting.low][d] == setting.worked(i, p, d)[0];
                    }
                }
            }
            return right ? 1 : 0;
        });
    }

    // ---- the line

    public int print(int v) {
        if (isNot(v, 0, 5)) {
            return BAD;
        }
        return act(() -> {
            through(voices[v]);
            List<String> notes = new ArrayList<>();
            for (int i = 0; i < voices[v].pitches.length; i++) {
                int pitch = voices[v].pitches[i];
                notes.add((pitch == 0 ? "R" : "" + pitch) + ":" + voices[v].lengths[i]);
            }
            line = String.join(" ", notes);
            return line.length();
        });
    }

    public int read(int v) {
        return isNot(v, 0, 5) ? BAD : act(() -> reading(v));
    }

    private int reading(int v) {
        int[][] rows = new int[2][24];
        int at = 0;
        int n = 0;
        while (!line.isEmpty()) {
            Matcher head = HEAD.matcher(line).region(at, line.length());
            if (!head.lookingAt()) {
                return -100 - at;
            }
            String told = head.group();
            if (!told.equals("R") && (told.length() > 3 || isNot(Integer.parseInt(told), 1, 120))) {
                return -100 - at;
            }
            at += told.length();
            if (!line.startsWith(":", at)) {
                return -100 - at;
            }
            at++;
            if (at == line.length() || "012345678".indexOf(line.charAt(at)) < 0) {
                return -100 - at;
            }
            rows[0][n] = told.equals("R") ? 0 : Integer.parseInt(told);
            rows[1][n] = line.charAt(at) - '0';
            n++;
            at++;
            if (at == line.length()) {
                break;
            }
            if (n == 24 || line.charAt(at) != ' ') {
                return -100 - at;
            }
            at++;
        }
        keep(v);
        voices[v] = new Voice(Arrays.copyOf(rows[0], n), Arrays.copyOf(rows[1], n));
        return n;
    }

    public int put(int i, int c) {
        if (isNot(i, 0, Math.min(159, line.length())) || isNot(c, 32, 126)) {
            return BAD;
        }
        line = line.substring(0, i) + (char) c + (i < line.length() ? line.substring(i + 1) : "");
        return 1;
    }

    public int cutLine(int n) {
        if (isNot(n, 0, line.length())) {
            return BAD;
        }
        int had = line.length();
        line = line.substring(0, n);
        return had;
    }

    public int character(int i) {
        return isNot(i, 0, line.length() - 1) ? NONE : line.charAt(i);
    }

    // ---- told

    public int status() {
        return status;
    }

    public int trace(int i) {
        return isNot(i, 0, Math.min(60, trace.size()) - 1) ? NONE : trace.get(i);
    }

    public int count(int what) {
        return switch (what) {
            case 0 -> faults.size();
            case 1 -> findings;
            case 2 -> trace.size();
            case 3 -> (int) Arrays.stream(voices).filter(Objects::nonNull).count();
            case 4 -> (int) Arrays.stream(places).filter(Objects::nonNull).count();
            case 5 -> setting == null ? 0 : setting.done;
            case 6 -> copied;
            case 7 -> isKept ? 1 : 0;
            default -> BAD;
        };
    }
}
