import java.util.Random;

/**
 * Promises 29 to 32 against all tunes there are: each one is written as a VOICE and heard for FAULTS, so that what
 * set() finds by its rows is held against what faults() tells of whole tunes.
 */
public final class AllTunesTest {
    private static final int PLACE = 15, TUNES_AN_OBJECT = 5;
    private static final int[] SIZES = {12, 48, 25};
    private final Random random;
    private TuneSchool school;
    private int judged;
    private int[] pitches;
    private int[] lengths;
    private boolean above;
    private int low;
    private int high;
    private int key;
    private int strong;
    private final int[] weights = new int[3];
    private final boolean[][] truths = new boolean[3][48];
    private final int[] kinds = new int[2];
    private int[] best;
    private int bestWeight;
    private int allowed;

    private AllTunesTest(long seed) {
        random = new Random(seed);
    }

    public static void main(String[] args) {
        Due due = new Due();
        int withTune = 0;
        for (int seed = 0; seed < 400; seed++) {
            AllTunesTest run = new AllTunesTest(seed);
            run.make();
            run.tryFrom(0, new int[run.pitches.length]);
            withTune += run.best != null ? 1 : 0;
            run.compare(due);
        }
        due.is(1, withTune > 100 && withTune < 399 ? 1 : 0);
        due.end();
    }

    private void make() {
        int n = 1 + random.nextInt(5);
        pitches = new int[n];
        lengths = new int[n];
        for (int i = 0; i < n; i++) {
            pitches[i] = random.nextInt(6) == 0 ? 0 : 58 + random.nextInt(8);
            lengths[i] = random.nextInt(6) == 0 ? 0 : 1 + random.nextInt(3);
        }
        above = random.nextBoolean();
        low = above ? 58 + random.nextInt(8) : 54 + random.nextInt(6);
        high = low + random.nextInt(6);
        key = random.nextInt(3) == 0 ? random.nextInt(4096) : 4095;
        strong = 1 + random.nextInt(4);
        for (int k = 0; k < 3; k++) {
            weights[k] = random.nextInt(5);
            for (int i = 0; i < 48; i++) {
                truths[k][i] = random.nextInt(8) < (k == 2 ? 3 : 7);
            }
        }
        kinds[0] = new int[] {0, 1, 3, 3}[random.nextInt(4)];
        kinds[1] = random.nextInt(4) == 0 ? 0 : 2;
    }

    private void prepare(TuneSchool x) {
        x.school(PLACE, 0, 3);
        for (int k = 0; k < 2; k++) {
            x.rule(k, kinds[k]);
            for (int as = 0; as < 3; as++) {
                int many = x.is(k, as) == 1 ? SIZES[as] : 0;
                for (int i = 0; i < many; i++) {
                    x.truth(k, as, i, truths[as][i]);
                }
            }
            x.seat(PLACE, k * 2, k);
        }
        x.strong(strong);
        x.key(key);
        for (int k = 0; k < 3; k++) {
            x.weight(k, weights[k]);
        }
        write(x, 0, pitches);
        x.voice(1, pitches.length);
    }

    private void write(TuneSchool x, int v, int[] tune) {
        x.voice(v, tune.length);
        for (int i = 0; i < tune.length; i++) {
            x.note(v, i, tune[i], lengths[i]);
        }
    }

    private boolean isHeard(int i) {
        return pitches[i] != 0 && lengths[i] != 0;
    }

    private void tryFrom(int i, int[] tune) {
        if (i == tune.length) {
            judge(tune);
            return;
        }
        if (!isHeard(i)) {
            tune[i] = 0;
            tryFrom(i + 1, tune);
            return;
        }
        for (int q = low; q <= high; q++) {
            boolean onSide = above ? q >= pitches[i] : q <= pitches[i];
            if (onSide && (key >> q % 12 & 1) == 1) {
                tune[i] = q;
                tryFrom(i + 1, tune);
            }
        }
    }

    private void judge(int[] tune) {
        // an object is good for 512 calls, so it does not stay for all tunes
        if (judged % TUNES_AN_OBJECT == 0) {
            school = new TuneSchool();
            prepare(school);
        }
        judged++;
        write(school, 1, tune);
        school.faults(PLACE);
        for (int k = 0; school.fault(k, 1) >= 0; k++) {
            if (school.fault(k, 3) == 1) {
                return;
            }
        }
        allowed++;
        int weight = weigh(tune);
        if (best == null || weight < bestWeight) {
            best = tune.clone();
            bestWeight = weight;
        }
    }

    private int weigh(int[] tune) {
        int sum = 0;
        int begin = 0;
        int joinsAt = -1;
        int before = 0;
        for (int i = 0; i < tune.length; i++) {
            if (isHeard(i)) {
                sum += tune[i] == low || tune[i] == high ? weights[2] : 0;
                if (begin == joinsAt) {
                    sum += weights[0] * Math.max(0, Math.abs(tune[i] - before) - 2);
                    sum += tune[i] == before ? weights[1] : 0;
                }
                before = tune[i];
                joinsAt = begin + lengths[i];
            }
            begin += lengths[i];
        }
        return sum;
    }

    private void compare(Due due) {
        TuneSchool x = new TuneSchool();
        prepare(x);
        due.is(best == null ? TuneSchool.NONE : 0, x.set(1, 0, PLACE, above, low, high, 30));
        due.is(best == null ? TuneSchool.NONE : bestWeight, x.least());
        due.is(allowed, x.many());
        due.is(1, x.check());
        for (int i = 0; i < pitches.length && best != null; i++) {
            due.is(best[i], x.number(1, 0, i));
            due.is(lengths[i], x.number(1, 1, i));
        }
    }
}
