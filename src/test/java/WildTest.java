import java.lang.reflect.InvocationTargetException;
import java.lang.reflect.Method;
import java.util.Arrays;
import java.util.Comparator;
import java.util.NoSuchElementException;
import java.util.Random;

/** All calls with wild arguments in all sorts of states: nothing is thrown, but by led(). */
public final class WildTest {
    private static final long[] WILD = {0, 1, 2, 3, 4, 5, 6, 9, 10, 20, 39, 40, 41, 49, 50, 51, 99, 100, 101, 200, 399, 400, 401, 999, 1000,
        1001, 4095, 4096, 9999, 10000, 10001, 65536, 65537, 1L << 30, Integer.MAX_VALUE, Integer.MIN_VALUE, -1, -2, -10, -50, -51, -1000};

    private static Object wild(Random r, Class<?> type) {
        if (type == boolean.class) return r.nextBoolean();
        if (type == long.class) return r.nextInt(3) == 0 ? r.nextLong() : WILD[r.nextInt(WILD.length)] * 65537;
        return (int) WILD[r.nextInt(r.nextInt(3) == 0 ? WILD.length : 9)];
    }

    public static void main(String[] args) throws IllegalAccessException {
        Method[] all = LittleMore.class.getDeclaredMethods();
        Method[] face = Arrays.stream(all).filter(m -> java.lang.reflect.Modifier.isPublic(m.getModifiers())).toArray(Method[]::new);
        Arrays.sort(face, Comparator.comparing(Method::getName));
        int wrong = 0;
        int calls = 0;
        for (int run = 0; run < 400; run++) {
            Random r = new Random(run);
            LittleMore x = new LittleMore();
            if (run % 4 != 0) Texts.room(x, Texts.chance(r, 600));
            for (int i = 0; i < 470; i++) {
                Method m = face[r.nextInt(face.length)];
                if (m.getName().equals("room") && r.nextInt(4) != 0) continue;
                Object[] with = Arrays.stream(m.getParameterTypes()).map(type -> wild(r, type)).toArray();
                calls++;
                try {
                    m.invoke(x, with);
                } catch (InvocationTargetException e) {
                    if (!m.getName().equals("led") || e.getCause().getClass() != NoSuchElementException.class) {
                        wrong++;
                        System.out.println("run " + run + ": " + m.getName() + Arrays.toString(with) + " threw " + e.getCause());
                    }
                }
            }
        }
        System.out.println(calls + " wild calls, " + wrong + " threw");
        if (wrong != 0) System.exit(1);
    }
}
