import java.lang.reflect.InvocationTargetException;
import java.lang.reflect.Method;
import java.lang.reflect.Modifier;
import java.util.ArrayList;
import java.util.Arrays;
import java.util.Comparator;
import java.util.List;
import java.util.Random;

/**
 * Calls of all promises with numbers at and far beyond every bound, in states that they lead to: only exceptions that
 * the face names may come, and only by a throw statement of the class itself, never by the machine.
 */
public final class ExtremesTest {
    private static final int RUNS = 1500;
    private static final int CALLS = 512;
    private static final int[] INTS = {Integer.MIN_VALUE, Integer.MIN_VALUE + 1, -1000000001, -1000000000, -100, -9, -8, -3,
        -2, -1, 0, 1, 2, 3, 4, 5, 7, 8, 9, 15, 16, 24, 31, 32, 33, 63, 64, 99, 100, 101, 115, 116, 216, 217, 343, 344, 400,
        416, 431, 440, 455, 460, 468, 480, 487, 500, 501, 516, 520, 521, 1000, 1000000000, 1000000001,
        Integer.MAX_VALUE - 1, Integer.MAX_VALUE};
    private static final long[] LONGS = {Long.MIN_VALUE, ObsMessages.MISSING - 1, ObsMessages.MISSING,
        ObsMessages.MISSING + 1, -2000000001L, -2000000000L, -1, 0, 1, 2, 30, 31, 2000000000L, 2000000001L,
        (1L << 32) - 2, (1L << 32) - 1, 1L << 32, Long.MAX_VALUE};

    public static void main(String[] args) {
        List<Method> face = new ArrayList<>();
        for (Method m : ObsMessages.class.getDeclaredMethods()) {
            if (Modifier.isPublic(m.getModifiers())) {
                face.add(m);
            }
        }
        face.sort(Comparator.comparing(Method::getName));
        Checks.due("methods of the face", face.size(), 21);
        for (int run = 0; run < RUNS; run++) {
            Checks.due("run " + run, wrongOf(face, new Random(run)), "");
        }
        Checks.end("ExtremesTest");
    }

    /** What came that must not, as text. */
    private static String wrongOf(List<Method> face, Random random) {
        ObsMessages x = new ObsMessages();
        for (int call = 0; call < CALLS; call++) {
            Method m = face.get(random.nextInt(3) == 0 ? indexOf(face, "append", "element", random)
                    : random.nextInt(face.size()));
            Object[] arguments = argumentsOf(m, random);
            try {
                m.invoke(x, arguments);
            } catch (InvocationTargetException e) {
                Throwable thrown = e.getCause();
                boolean isNamed = Arrays.asList(m.getExceptionTypes()).contains(thrown.getClass());
                boolean isOwn = thrown.getStackTrace()[0].getClassName().startsWith("ObsMessages");
                boolean isThrown = isOwn && thrown.getStackTrace()[0].getMethodName().equals(m.getName());
                if (!isNamed || !isThrown) {
                    return m.getName() + Arrays.toString(arguments) + " threw " + thrown;
                }
            } catch (IllegalAccessException e) {
                return e.toString();
            }
        }
        return "";
    }

    private static int indexOf(List<Method> face, String one, String other, Random random) {
        String name = random.nextInt(3) > 0 ? one : other;
        for (int i = 0; i < face.size(); i++) {
            if (face.get(i).getName().equals(name)) {
                return i;
            }
        }
        return 0;
    }

    /** Numbers of any size, but often small ones, so that states come about. */
    private static Object[] argumentsOf(Method m, Random random) {
        Class<?>[] types = m.getParameterTypes();
        Object[] arguments = new Object[types.length];
        for (int i = 0; i < types.length; i++) {
            if (types[i] == boolean.class) {
                arguments[i] = random.nextBoolean();
            } else if (types[i] == long.class) {
                arguments[i] = random.nextInt(3) == 0 ? LONGS[random.nextInt(LONGS.length)] : (long) random.nextInt(32);
            } else {
                arguments[i] = random.nextInt(3) == 0 ? INTS[random.nextInt(INTS.length)] : random.nextInt(6) - 1;
            }
        }
        if (m.getName().equals("append") && random.nextInt(3) > 0) {
            arguments[0] = random.nextInt(4) - 1;
            arguments[1] = new int[] {random.nextInt(4), 100 + random.nextInt(3), 216 + random.nextInt(40), 416, 400,
                461, 460, 501, 520, 448, 440, 481, 480}[random.nextInt(13)];
        }
        return arguments;
    }
}
