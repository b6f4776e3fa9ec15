import java.lang.reflect.Method;
import java.util.ArrayList;
import java.util.Arrays;
import java.util.HashMap;
import java.util.List;
import java.util.Map;
import java.util.Random;

/** All promises: long runs of calls by chance, each answer of TuneSchool held against that of PlainSchool. */
public final class RandomRunsTest {
    private static final int RUNS = 1500, CALLS = 512;
    private static final String TOLD = "R0123456789: ";
    /** A letter an argument, see argument(); how often the call comes. */
    private static final String[] CALLS_WITH = {
        "voice vN 1", "drop v 1", "note vipl 40", "cut vwN 1", "size vw 1", "number vwi 3", "end v 2",
        "sounds vt 3", "transpose vb 3", "copy vivij 3", "undo 4", "rule Rk 2", "school QyS 1", "clear r 1",
        "truth Ras? 30", "is ra 1", "seat QdR 6", "seated Qd 2", "strong m 3", "key K 2", "weight d0 2",
        "faults r 8", "fault fd 5", "mend f 8", "canon vrtbd 5", "canons vrbd 2", "follows vttbd 3",
        "set vvr?LHn 6", "goOn n 5", "least 3", "many 3", "row iLd 12", "spoil iLdW 6", "check 6", "print v 4",
        "read v 3", "put cC 6", "cutLine c 1", "character c 3", "status 3", "trace f 5", "count d 6",
        "count x 3"};

    private final Random random;
    private final Map<String, Integer> answers;
    private boolean tame;

    private RandomRunsTest(long seed, Map<String, Integer> answers) {
        random = new Random(seed);
        this.answers = answers;
    }

    public static void main(String[] args) throws ReflectiveOperationException {
        long from = args.length > 0 ? Long.parseLong(args[0]) : 0;
        long runs = args.length > 1 ? Long.parseLong(args[1]) : RUNS;
        Map<String, Integer> answers = new HashMap<>();
        int wrong = 0;
        for (long seed = from; seed < from + runs; seed++) {
            wrong += new RandomRunsTest(seed, answers).run(seed) ? 0 : 1;
        }
        wrong += namesNotSeen(answers);
        System.out.println(runs + " runs, " + wrong + " not as due");
        if (args.length > 2) {
            answers.entrySet().stream().sorted(Map.Entry.comparingByKey()).forEach(System.out::println);
        }
        if (wrong != 0) {
            System.exit(1);
        }
    }

    /** That chance did reach each call with an answer that is neither BAD nor a FINDING. */
    private static int namesNotSeen(Map<String, Integer> answers) {
        int missing = 0;
        for (String call : CALLS_WITH) {
            String name = call.substring(0, call.indexOf(' '));
            if (!answers.containsKey(name + " fine")) {
                System.out.println(name + " was never fine");
                missing++;
            }
        }
        return missing;
    }

    private boolean run(long seed) throws ReflectiveOperationException {
        TuneSchool school = new TuneSchool();
        PlainSchool plain = new PlainSchool();
        List<String> told = new ArrayList<>();
        tame = random.nextInt(4) != 0;
        List<String> opening = opening();
        for (int k = 0; k < CALLS; k++) {
            String[] call = (k < opening.size() ? opening.get(k) : nextCall()).split(" ");
            Method method = named(call[0]);
            Object[] with = arguments(method, call.length > 2 ? call[1] : "");
            int got = (int) method.invoke(school, with);
            int want = (int) PlainSchool.class.getMethod(call[0], method.getParameterTypes()).invoke(plain, with);
            answers.merge(call[0] + (got == -1 ? " BAD" : got == -2 ? " NONE" : got < -2 ? " " + got : " fine"), 1,
                    Integer::sum);
            told.add(call[0] + Arrays.toString(with) + " " + got);
            if (got != want) {
                System.out.println("run " + seed + ", call " + k + ": due is " + want + " behind");
                told.subList(Math.max(0, told.size() - 12), told.size()).forEach(System.out::println);
                return false;
            }
        }
        return true;
    }

    /** VOICES with NOTES, RULES with truths, a SCHOOL that has them: chance alone seldom comes as far. */
    private List<String> opening() {
        List<String> calls = new ArrayList<>();
        for (int k = 0; k < 3 && tame; k++) {
            calls.add("voice vN 1");
        }
        for (int k = 0; k < 4 && tame; k++) {
            calls.add("rule Rk 1");
        }
        calls.add("print v 1");
        calls.add("school QyS 1");
        for (int k = 0; k < 6; k++) {
            calls.add("seat QdR 1");
        }
        for (int k = 0; k < 60; k++) {
            calls.add(k % 2 == 0 ? "note vipl 1" : "truth Ras? 1");
        }
        return calls;
    }

    private String nextCall() {
        int sum = 0;
        for (String call : CALLS_WITH) {
            sum += often(call);
        }
        int left = random.nextInt(sum);
        int k = 0;
        while (left >= often(CALLS_WITH[k])) {
            left -= often(CALLS_WITH[k]);
            k++;
        }
        return CALLS_WITH[k];
    }

    private static int often(String call) {
        return Integer.parseInt(call.substring(call.lastIndexOf(' ') + 1));
    }

    private static Method named(String name) {
        for (Method method : TuneSchool.class.getDeclaredMethods()) {
            if (method.getName().equals(name)) {
                return method;
            }
        }
        throw new IllegalArgumentException(name);
    }

    private Object[] arguments(Method method, String letters) {
        Object[] with = new Object[letters.length()];
        for (int k = 0; k < with.length; k++) {
            if (letters.charAt(k) == '?') {
                with[k] = random.nextInt(3) != 0;
            } else if (random.nextInt(tame ? 400 : 25) == 0) {
                int[] wild = {-1, -2, 25, 121, 161, Integer.MAX_VALUE, Integer.MIN_VALUE, 1000, 4096, -100};
                with[k] = wild[random.nextInt(wild.length)];
            } else {
                with[k] = argument(letters.charAt(k));
            }
        }
        if (random.nextInt(8) != 0) {
            fitTogether(method.getName(), with);
        }
        return with;
    }

    /** Some numbers are only right with others: low and high, truths and what has them. */
    private void fitTogether(String name, Object[] with) {
        if (name.equals("set")) {
            with[5] = (Integer) with[4] + random.nextInt(16);
        } else if (name.equals("truth")) {
            int as = random.nextInt(3);
            with[1] = as;
            with[2] = random.nextInt(new int[] {12, 48, 25}[as]);
        }
    }

    private int argument(char letter) {
        switch (letter) {
            case 'v': return random.nextInt(tame ? 3 : 6);
            case 'N': return tame ? 4 + random.nextInt(6) : random.nextInt(25);
            case 'i': return random.nextInt(tame ? 6 : 24);
            case 'p': return random.nextInt(7) == 0 ? 0 : tame ? 58 + random.nextInt(12) : random.nextInt(121);
            case 'l': return random.nextInt(tame ? 4 : 9);
            case 'w': return random.nextInt(2);
            case 't': return random.nextInt(tame ? 12 : 100);
            case 'b': return random.nextInt(25) - 12;
            case 'n': return random.nextInt(12);
            case 'j': return random.nextInt(4);
            case 'r': return random.nextInt(tame ? 6 : 16);
            case 'R': return random.nextInt(tame ? 4 : 16);
            case 'Q': return tame ? 4 + random.nextInt(2) : random.nextInt(16);
            case 'k': return random.nextInt(4);
            case 'y': return random.nextInt(3) == 0 ? random.nextInt(3) : 0;
            case 'S': return random.nextInt(6);
            case 'a': return random.nextInt(3);
            case 's': return random.nextInt(50);
            case 'm': return 1 + random.nextInt(6);
            case 'K': return random.nextInt(3) == 0 ? 4095 : random.nextInt(4096) | random.nextInt(4096);
            case 'd': return random.nextInt(3);
            case '0': return random.nextInt(6);
            case 'f': return random.nextInt(random.nextInt(4) != 0 ? 8 : 210);
            case 'L': return 55 + random.nextInt(10);
            case 'H': return 55 + random.nextInt(30);
            case 'W': return random.nextInt(3) == 0 ? 1000000000 - random.nextInt(5) : random.nextInt(9);
            case 'c': return random.nextInt(random.nextInt(9) == 0 ? 165 : 14);
            case 'C': return random.nextInt(12) == 0 ? ' ' + random.nextInt(95) : TOLD.charAt(random.nextInt(13));
            case 'x': return 3 + random.nextInt(6);
            default: throw new IllegalArgumentException("" + letter);
        }
    }
}
