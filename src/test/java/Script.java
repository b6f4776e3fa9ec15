import java.io.IOException;
import java.io.UncheckedIOException;
import java.lang.reflect.Method;
import java.lang.reflect.Modifier;
import java.nio.file.Files;
import java.nio.file.Path;
import java.util.ArrayList;
import java.util.Arrays;
import java.util.HashMap;
import java.util.List;
import java.util.Map;

/**
 * Tests as texts: a sentence of the document, word for word, and calls with the answers that it asks for. Each text is
 * run on TuneSchool and on PlainSchool, so that a wrong text does not go unseen either.
 *
 * <p>A text has steps, divided by line ends or ";": a call, {@code note 0 1 60 2 = 1} (without "=": any answer), or one
 * of the short ways: {@code tune 0 60:1 R:2} writes a VOICE, {@code told 0 60:1 R:2} asks for it, {@code line "60:1"}
 * writes THE LINE, {@code says "60:1"} asks for it, {@code traced 10 1} asks for THE TRACE, all of it, and
 * {@code truths 0 1 7 19} makes truths true, {@code all 0 1} all of them.
 */
final class Script {
    static final int MOST_CALLS = 512;
    private static final Path DOCUMENT = Path.of("../shared/DOC.md");
    private static final int[] TRUTHS = {12, 48, 25};
    private static final Map<String, Integer> NAMES = new HashMap<>();
    private static final Map<String, Method> METHODS = new HashMap<>();
    private static final List<String> QUOTED = new ArrayList<>();
    private static int asked;
    private static int wrong;

    static {
        String[] findings = {"NOTHING", "BEYOND", "CAST", "STORE", "SIZE", "RANGE", "STATE"};
        for (int k = 0; k < findings.length; k++) {
            NAMES.put(findings[k], -11 - k);
        }
        NAMES.put("BAD", -1);
        NAMES.put("NONE", -2);
        NAMES.put("FAR", 1000000000);
        NAMES.put("MIN", Integer.MIN_VALUE);
        NAMES.put("MAX", Integer.MAX_VALUE);
    }

    private final Object school;
    private final String sentence;
    private String step;
    private int calls;

    private Script(Object school, String sentence) {
        this.school = school;
        this.sentence = sentence;
    }

    /** A sentence of the document and what it asks for, beginning with a new object. */
    static void test(String sentence, String... text) {
        QUOTED.add(sentence);
        String steps = String.join("\n", text);
        new Script(new TuneSchool(), sentence).run(steps);
        new Script(new PlainSchool(), sentence).run(steps);
    }

    /** For tests that begin with what a text makes; a TuneSchool or a PlainSchool. */
    static void prepare(Object school, String... text) {
        int wrongSoFar = wrong;
        new Script(school, "(prepared)").run(String.join("\n", text));
        if (wrong != wrongSoFar) {
            throw new IllegalStateException("not prepared as due");
        }
    }

    /** The tests of these promises, and of terms that they rest on, end. */
    static void end(int firstPromise, int lastPromise) {
        holdAgainstTheDocument(firstPromise, lastPromise);
        System.out.println(QUOTED.size() + " sentences, " + asked + " answers, " + wrong + " not as due");
        if (wrong != 0) {
            System.exit(1);
        }
    }

    /** A sentence that the document does not have (any more) must not look as if it were held. */
    private static void holdAgainstTheDocument(int firstPromise, int lastPromise) {
        String document = document();
        for (String quote : QUOTED) {
            tell(document.contains(quote), "not in the document: " + quote);
        }
        for (int n = firstPromise; n <= lastPromise; n++) {
            int begin = document.indexOf("## Promise " + n + ":");
            int end = document.indexOf("## ", begin + 1);
            String promise = begin >= 0 && end >= 0 ? document.substring(begin, end) : "";
            tell(QUOTED.stream().anyMatch(promise::contains), "no sentence of promise " + n);
        }
    }

    private static String document() {
        try {
            return Files.readString(DOCUMENT).replaceAll("\\s+", " ");
        } catch (IOException e) {
            throw new UncheckedIOException(e);
        }
    }

    private static void tell(boolean is, String what) {
        if (!is) {
            wrong++;
            System.out.println(what);
        }
    }

    static int number(String word) {
        if (word.startsWith("'")) {
            return word.charAt(1);
        }
        Integer named = NAMES.get(word);
        return named != null ? named : Integer.parseInt(word);
    }

    /** {@code words}: the name of a call and its arguments. */
    static int call(Object school, String... words) {
        Method method = METHODS.computeIfAbsent(school.getClass().getName() + words[0], key -> named(school, words[0]));
        Object[] with = new Object[words.length - 1];
        for (int k = 0; k < with.length; k++) {
            boolean isTruth = words[k + 1].equals("true") || words[k + 1].equals("false");
            with[k] = isTruth ? (Object) words[k + 1].equals("true") : (Object) number(words[k + 1]);
        }
        try {
            return (int) method.invoke(school, with);
        } catch (ReflectiveOperationException e) {
            throw new IllegalStateException(String.join(" ", words), e);
        }
    }

    private static Method named(Object school, String name) {
        for (Method method : school.getClass().getDeclaredMethods()) {
            if (method.getName().equals(name) && Modifier.isPublic(method.getModifiers())) {
                return method;
            }
        }
        throw new IllegalArgumentException(name);
    }

    private void run(String text) {
        for (String one : text.split("[;\n]")) {
            step = one.strip();
            if (!step.isEmpty()) {
                doStep(step.split(" +"));
            }
        }
        if (calls > MOST_CALLS) {
            due("calls", MOST_CALLS, calls);
        }
    }

    private void doStep(String[] words) {
        switch (words[0]) {
            case "tune" -> tune(words);
            case "told" -> told(words);
            case "line" -> line(quoted());
            case "says" -> says(quoted());
            case "traced" -> traced(words);
            case "truths" -> truths(words);
            case "all" -> all(words);
            default -> plainCall(words);
        }
    }

    private int ask(Object... words) {
        calls++;
        String[] texts = new String[words.length];
        for (int k = 0; k < words.length; k++) {
            texts[k] = String.valueOf(words[k]);
        }
        return call(school, texts);
    }

    private void due(String what, int want, int got) {
        asked++;
        if (want != got) {
            wrong++;
            System.out.println("\"" + sentence + "\": " + school.getClass().getName() + ", in " + step + ": " + what
                    + " is " + got + ", due is " + want);
        }
    }

    private void plainCall(String[] words) {
        boolean isDue = words.length > 2 && words[words.length - 2].equals("=");
        int end = isDue ? words.length - 2 : words.length;
        int got = ask((Object[]) Arrays.copyOf(words, end));
        if (isDue) {
            due(words[0], number(words[words.length - 1]), got);
        }
    }

    private void tune(String[] words) {
        ask("voice", words[1], words.length - 2);
        for (int i = 0; i < words.length - 2; i++) {
            String[] note = words[i + 2].split(":");
            ask("note", words[1], i, note[0].equals("R") ? "0" : note[0], note[1]);
        }
    }

    private void told(String[] words) {
        int notes = words.length - 2;
        due("size of PITCHES", notes, ask("size", words[1], 0));
        due("size of LENGTHS", notes, ask("size", words[1], 1));
        for (int i = 0; i < notes; i++) {
            String[] note = words[i + 2].split(":");
            due("PITCH " + i, note[0].equals("R") ? 0 : Integer.parseInt(note[0]), ask("number", words[1], 0, i));
            due("LENGTH " + i, Integer.parseInt(note[1]), ask("number", words[1], 1, i));
        }
    }

    private String quoted() {
        return step.substring(step.indexOf('"') + 1, step.lastIndexOf('"'));
    }

    private void line(String text) {
        ask("cutLine", 0);
        for (int i = 0; i < text.length(); i++) {
            ask("put", i, (int) text.charAt(i));
        }
    }

    private void says(String text) {
        for (int i = 0; i <= text.length(); i++) {
            due("character " + i, i < text.length() ? text.charAt(i) : -2, ask("character", i));
        }
    }

    private void traced(String[] words) {
        due("count(2)", words.length - 1, ask("count", 2));
        for (int i = 0; i < words.length; i++) {
            due("trace " + i, i < words.length - 1 ? Integer.parseInt(words[i + 1]) : -2, ask("trace", i));
        }
    }

    private void truths(String[] words) {
        for (int k = 3; k < words.length; k++) {
            ask("truth", words[1], words[2], words[k], "true");
        }
    }

    private void all(String[] words) {
        for (int i = 0; i < TRUTHS[Integer.parseInt(words[2])]; i++) {
            ask("truth", words[1], words[2], i, "true");
        }
    }
}
