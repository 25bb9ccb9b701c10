import java.lang.reflect.InvocationTargetException;
import java.lang.reflect.Method;
import java.util.Arrays;
import java.util.Comparator;
import java.util.NoSuchElementException;
import java.util.Random;

/** Any call with any arguments in any state: nothing is thrown but what person(..) throws, and answers repeat. */
public final class ExtremeRuns {
    private static final int[] NUMBERS = {Integer.MIN_VALUE, Integer.MIN_VALUE + 1, -1000000, -2, -1, 0, 0, 0, 1, 1, 2,
        3, 4, 5, 6, 7, 8, 9, 11, 12, 13, 59, 60, 61, 99, 100, 240, 1000, 5779, 6000, 32767, 65536,
        Integer.MAX_VALUE - 3, Integer.MAX_VALUE};
    private static final String[] TEXTS = {"p:a", "pw1s1:abcdefghabcd;ps9w7:h;p:aa;va2;vk7a1;vk6a1p1;eo0p1;e f3 t3",
        "p:a;p:b;p:c;p:d;p:e;vk6;vk7;vk6a1;vk7a1;vk6a7;vk7a6;vk6a5;vk7a4;e;e;e;e;e;e;e;e", "y:9999*9999*x/r-q",
        "y:!(j=h|i<2)&x>1?[[[[[[9999]]]]]]*j;y:0-i", "abch", "h", "aaaaaaaaaaaa", "p:a;;", "y:", ""};

    private ExtremeRuns() {
    }

    private static Object[] arguments(Method m, Random r) {
        Object[] arguments = new Object[m.getParameterCount()];
        for (int i = 0; i < arguments.length; i++) {
            int number = NUMBERS[r.nextInt(NUMBERS.length)];
            arguments[i] = m.getParameterTypes()[i] == long.class ? (Object) (r.nextLong() >> r.nextInt(64)) : number;
        }
        return arguments;
    }

    private static String answer(SwornDays x, Method m, Object[] arguments) throws IllegalAccessException {
        try {
            return String.valueOf(m.invoke(x, arguments));
        } catch (InvocationTargetException e) {
            Throwable thrown = e.getCause();
            boolean told = thrown instanceof NoSuchElementException && m.getName().equals("person");
            Check.due(m.getName() + Arrays.toString(arguments) + " threw " + thrown, told, true);
            return thrown.getClass().getName();
        }
    }

    /** Every answer of a run, one behind the other. */
    private static int story(Method[] methods, long seed) throws IllegalAccessException {
        Random r = new Random(seed);
        SwornDays x = new SwornDays();
        int story = 0;
        for (int k = 0; k < 400; k++) {
            if (r.nextInt(8) == 0) {
                Check.tape(x, TEXTS[r.nextInt(TEXTS.length)]);
                story = 31 * story + x.text(r.nextInt(3));
            }
            Method m = methods[r.nextInt(methods.length)];
            story = 31 * story + answer(x, m, arguments(m, r)).hashCode();
        }
        return story;
    }

    public static void main(String[] args) throws IllegalAccessException {
        Method[] methods = Arrays.stream(SwornDays.class.getDeclaredMethods())
            .filter(m -> java.lang.reflect.Modifier.isPublic(m.getModifiers())).toArray(Method[]::new);
        Arrays.sort(methods, Comparator.comparing(Method::getName));
        Check.due("methods of the face", methods.length, 46);
        for (long seed = 0; seed < 3000; seed++) {
            int first = story(methods, seed);
            if (seed % 10 == 0) {
                Check.due("the same calls give the same answers", story(methods, seed), first);
            }
        }
        Check.end("ExtremeRuns");
    }
}
