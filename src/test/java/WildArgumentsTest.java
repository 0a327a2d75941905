import java.lang.reflect.Method;
import java.lang.reflect.Modifier;
import java.util.ArrayList;
import java.util.Comparator;
import java.util.List;
import java.util.Random;

/** Every call with arguments from all over: none may throw, and each answers as the Model does. */
public final class WildArgumentsTest {
    private static final int[] NUMBERS = {Integer.MIN_VALUE, Integer.MIN_VALUE + 1, -10000, -5001, -61, -2, -1, 0, 1, 2, 3, 7, 8,
        9, 10, 12, 13, 20, 30, 31, 60, 61, 96, 97, 100, 200, 201, 999, 1000, 5000, 9999, 30000, Integer.MAX_VALUE - 1, Integer.MAX_VALUE};
    private static final String SIGNS = "  ;;()-0123456789piecelengthstrandsstuffgoholdtimesfor\u0000\u007f\u0080\u00ff";
    private static final Check check = new Check("WildArgumentsTest");

    public static void main(String[] args) throws Exception {
        List<Method> calls = new ArrayList<>();
        for (Method m : WhipCrack.class.getDeclaredMethods()) {
            if (Modifier.isPublic(m.getModifiers())) {
                calls.add(m);
            }
        }
        calls.sort(Comparator.comparing(Method::getName));
        for (int run = 0; run < 60; run++) {
            Random random = new Random(run * 104729L + 5);
            WhipCrack whip = new WhipCrack();
            Model model = new Model();
            for (int i = 0; i < 500; i++) {
                Method call = calls.get(random.nextInt(calls.size()));
                compare(run, call, whip, model, arguments(call, random));
            }
        }
        check.end();
    }

    private static Object[] arguments(Method call, Random random) {
        Object[] given = new Object[call.getParameterCount()];
        for (int i = 0; i < given.length; i++) {
            if (call.getParameterTypes()[i] == long.class) {
                given[i] = random.nextInt(4) == 0 ? random.nextLong() : signs(random);
            } else if (call.getName().equals("feed") && random.nextInt(4) != 0) {
                given[i] = 1 + random.nextInt(8);
            } else {
                given[i] = random.nextInt(3) == 0 ? random.nextInt(12) : NUMBERS[random.nextInt(NUMBERS.length)];
            }
        }
        return given;
    }

    private static long signs(Random random) {
        long bytes = 0;
        for (int i = 0; i < 8; i++) {
            bytes = bytes << 8 | SIGNS.charAt(random.nextInt(SIGNS.length()));
        }
        return bytes;
    }

    private static void compare(int run, Method call, WhipCrack whip, Model model, Object[] given) throws Exception {
        Method same = Model.class.getDeclaredMethod(call.getName(), call.getParameterTypes());
        String told = "run " + run + ": " + call.getName() + java.util.Arrays.toString(given);
        long want = ((Number) same.invoke(model, given)).longValue();
        try {
            check.due(told, ((Number) call.invoke(whip, given)).longValue(), want);
        } catch (java.lang.reflect.InvocationTargetException thrown) {
            check.holds(told + " threw " + thrown.getCause(), false);
        }
    }
}
