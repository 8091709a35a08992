import java.lang.reflect.InvocationTargetException;
import java.lang.reflect.Method;
import java.lang.reflect.Modifier;
import java.util.Arrays;
import java.util.Comparator;
import java.util.Random;

/**
 * No call throws or fails to end, with any arguments and in any state: far behind the 512th call, too, where the
 * document leaves the answers free. All errors are those of the document.
 */
public final class AnyCallTest {
    private static final int OBJECTS = 40;
    private static final int CALLS = 20_000;
    private static final int[] EXTREMES = {
        Integer.MIN_VALUE, Integer.MIN_VALUE + 1, -1000, -101, -100, -4, -3, -2, -1, 11, 12, 13, 14, 15, 20, 21, 49, 50,
        51, 70, 71, 98, 99, 100, 255, 256, 600, 601, 1000, 1001, 65535, Integer.MAX_VALUE - 1, Integer.MAX_VALUE,
    };
    private static final String SIGNS = "0123456789>*!@;;>>@@19 \0\u00ff\uffff";
    private static final int LEAST_ANSWER = -170;

    private final Checks checks = new Checks("AnyCallTest");
    private final Random random = new Random(20261120);
    private final Method[] calls;

    private AnyCallTest() {
        calls = Arrays.stream(LearningRepeater.class.getDeclaredMethods())
                .filter(method -> Modifier.isPublic(method.getModifiers()))
                .sorted(Comparator.comparing(Method::getName)).toArray(Method[]::new);
    }

    private int someNumber() {
        return random.nextInt(3) == 0 ? EXTREMES[random.nextInt(EXTREMES.length)] : random.nextInt(10);
    }

    private Object some(Class<?> type) {
        if (type == boolean.class) {
            return random.nextInt(3) > 0;
        }
        if (type == char.class) {
            return SIGNS.charAt(random.nextInt(SIGNS.length()));
        }
        return someNumber();
    }

    private void one(LearningRepeater x, Method call) {
        Object[] arguments = Arrays.stream(call.getParameterTypes()).map(this::some).toArray();
        String told = call.getName() + Arrays.toString(arguments);
        try {
            int answer = (int) call.invoke(x, arguments);
            int least = call.getName().equals("readFrames") ? LEAST_ANSWER : LearningRepeater.NONE;
            checks.due("whether the answer of " + told + ", " + answer + ", is a number or an error,",
                    answer >= least ? 1 : 0, 1);
        } catch (InvocationTargetException thrown) {
            checks.same("what " + told + " throws", "" + thrown.getCause(), "nothing");
        } catch (IllegalAccessException denied) {
            checks.same("the access to " + told, "" + denied, "allowed");
        }
    }

    /** Each object gets calls of all kinds at first, and then mostly of one kind. */
    private void run() {
        for (int object = 0; object < OBJECTS; object++) {
            checks.promise("object " + object);
            LearningRepeater x = new LearningRepeater();
            Method often = calls[object % calls.length];
            for (int made = 0; made < CALLS; made++) {
                boolean any = made < CALLS / 2 || random.nextInt(2) == 0;
                one(x, any ? calls[random.nextInt(calls.length)] : often);
            }
        }
        checks.end();
    }

    public static void main(String[] args) {
        new AnyCallTest().run();
    }
}
