import java.lang.reflect.Method;
import java.lang.reflect.Modifier;
import java.util.ArrayList;
import java.util.Arrays;
import java.util.List;
import java.util.Random;

/**
 * "No call may ever throw or fail to end, for any arguments in any state" (LANGUAGE.md, 7): each call, with bounds of
 * the document and numbers far beyond them in each place, and its answers held against those of PlainSchool.
 */
public final class AnyNumbersTest {
    private static final int OBJECTS = 30, CALLS = 380;
    private static final int[] NUMBERS = {Integer.MIN_VALUE, Integer.MIN_VALUE + 1, -1073741824, -1000000000,
        -101, -100, -61, -60, -12, -11, -2, -1, 0, 1, 2, 3, 4, 5, 6, 7, 8, 9, 11, 12, 15, 16, 17, 20, 21, 23, 24, 25,
        26, 30, 31, 32, 47, 48, 49, 59, 60, 61, 62, 63, 64, 65, 75, 76, 119, 120, 121, 126, 127, 159, 160, 161,
        191, 192, 193, 199, 200, 201, 999, 1000, 1001, 4095, 4096, 1000000000, 1000000001, 1073741824, 2147483587,
        Integer.MAX_VALUE - 1, Integer.MAX_VALUE};
    private static final Due due = new Due();

    public static void main(String[] args) {
        List<Method> methods = new ArrayList<>();
        for (Method method : TuneSchool.class.getDeclaredMethods()) {
            if (Modifier.isPublic(method.getModifiers())) {
                methods.add(method);
            }
        }
        methods.sort((a, b) -> a.getName().compareTo(b.getName()));
        due.is(42, methods.size());
        for (int setting = 0; setting < Seen.SETTINGS.length; setting++) {
            for (int seed = 0; seed < OBJECTS; seed++) {
                anyCalls(setting, methods, new Random(seed));
            }
        }
        due.end();
    }

    private static void anyCalls(int setting, List<Method> methods, Random random) {
        TuneSchool school = new TuneSchool();
        PlainSchool plain = new PlainSchool();
        Seen.make(school, setting, false);
        Seen.make(plain, setting, false);
        for (int k = 0; k < CALLS; k++) {
            String[] call = anyCall(methods.get(random.nextInt(methods.size())), random);
            int want = Script.call(plain, call);
            int got = Script.call(school, call);
            if (want != got) {
                System.out.println("in " + Arrays.toString(call));
            }
            due.is(want, got);
        }
    }

    /** All numbers by chance, or all but some small, so that a far one comes where the others are as told. */
    private static String[] anyCall(Method method, Random random) {
        Class<?>[] types = method.getParameterTypes();
        String[] call = new String[types.length + 1];
        call[0] = method.getName();
        int far = random.nextInt(3) == 0 ? 1 : 4;
        for (int k = 0; k < types.length; k++) {
            boolean small = random.nextInt(far) != 0;
            int number = small ? random.nextInt(6) : NUMBERS[random.nextInt(NUMBERS.length)];
            call[k + 1] = types[k] == boolean.class ? "" + random.nextBoolean() : "" + number;
        }
        return call;
    }
}
