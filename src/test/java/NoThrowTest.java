import java.lang.reflect.InvocationTargetException;
import java.lang.reflect.Method;
import java.util.NoSuchElementException;
import java.util.Random;

/** Wild arguments in many states: nothing is thrown but what led() may throw. */
public final class NoThrowTest {
    private static final int[] EDGES = {0, 1, 2, 3, 4, 5, 6, 7, 9, 10, 40, 41, 60, 61, 63, 64, 90, 91, 99, 100, 200, 201,
        900, 901, 65536, 65537, -1, -2, Integer.MAX_VALUE, Integer.MIN_VALUE};

    private NoThrowTest() {
    }

    public static void main(String[] args) throws IllegalAccessException {
        Method[] face = ShoreGuards.class.getMethods();
        // The machine's own order of methods isn't sure to be the same each time.
        java.util.Arrays.sort(face, java.util.Comparator.comparing(Method::getName));
        for (int seed = 1; seed <= 300; seed++) {
            Random random = new Random(seed);
            ShoreGuards x = new ShoreGuards();
            if (random.nextInt(4) != 0) {
                Check.tell(x, Model.random(random).text(random));
            }
            for (int call = 0; call < 500; call++) {
                callOne(x, face[random.nextInt(face.length)], random, seed);
            }
        }
        Check.finish();
    }

    private static void callOne(ShoreGuards x, Method m, Random random, int seed) throws IllegalAccessException {
        if (m.getDeclaringClass() != ShoreGuards.class || m.getName().equals("beach") && random.nextInt(4) != 0) {
            return;
        }
        Object[] values = new Object[m.getParameterCount()];
        for (int i = 0; i < values.length; i++) {
            int kind = random.nextInt(3);
            int number = kind == 0 ? EDGES[random.nextInt(EDGES.length)] : kind == 1 ? random.nextInt(6) : random.nextInt();
            values[i] = m.getParameterTypes()[i] == boolean.class ? (Object) random.nextBoolean() : (Object) number;
        }
        try {
            m.invoke(x, values);
        } catch (InvocationTargetException e) {
            boolean allowed = m.getName().equals("led") && e.getCause().getClass() == NoSuchElementException.class;
            Check.due("run " + seed + ": " + m.getName() + java.util.Arrays.toString(values) + " throws " + e.getCause(), allowed, true);
        }
    }
}
