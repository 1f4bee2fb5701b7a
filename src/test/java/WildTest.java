import java.lang.reflect.InvocationTargetException;
import java.lang.reflect.Method;
import java.lang.reflect.Modifier;
import java.util.ArrayList;
import java.util.Comparator;
import java.util.List;
import java.util.Random;

/** Calls with any arguments in any state: none may throw, and none may ask for more than a moment. */
public final class WildTest {
    private static final int RUNS = 1500;
    private static final int[] EDGES = {-1, 0, 1, 2, 3, 4, 7, 8, 15, 19, 20, 31, 32, 60, 61, 99, 100, 1000, -2, -100,
        Integer.MAX_VALUE, Integer.MIN_VALUE, 0xfffff, 0x100000, 100000};

    private WildTest() {
    }

    public static void main(String[] args) throws IllegalAccessException {
        List<Method> face = new ArrayList<>();
        for (Method m : MeadowSigns.class.getDeclaredMethods()) {
            if (Modifier.isPublic(m.getModifiers())) {
                face.add(m);
            }
        }
        face.sort(Comparator.comparing(Method::getName));
        for (int seed = 0; seed < RUNS && Calls.wrongSoFar() == 0; seed++) {
            Random r = new Random(seed);
            MeadowSigns x = new MeadowSigns();
            for (int i = 0; i < 512; i++) {
                if (r.nextInt(60) == 0) {
                    Calls.feed(x, Model.random(r, 0).text(r));
                    x.meadow();
                }
                Method m = face.get(r.nextInt(face.size()));
                Object[] with = new Object[m.getParameterCount()];
                for (int j = 0; j < with.length; j++) {
                    with[j] = m.getParameterTypes()[j] == boolean.class ? (Object) r.nextBoolean() : (Object) argument(r);
                }
                try {
                    m.invoke(x, with);
                    Calls.due(m.getName(), 0, 0);
                } catch (InvocationTargetException e) {
                    Calls.due(m.getName() + " threw " + e.getCause() + " in run " + seed, 1, 0);
                    e.getCause().printStackTrace();
                }
            }
        }
        Calls.finish();
    }

    private static int argument(Random r) {
        switch (r.nextInt(4)) {
            case 0:
                return EDGES[r.nextInt(EDGES.length)];
            case 1:
                return r.nextInt(1 << 1 + r.nextInt(20));
            case 2:
                return r.nextInt(12) - 1;
            default:
                return r.nextInt(10) == 0 ? r.nextInt() : r.nextInt(20);
        }
    }
}
