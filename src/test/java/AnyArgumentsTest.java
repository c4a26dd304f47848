import java.lang.reflect.InvocationTargetException;
import java.lang.reflect.Method;
import java.lang.reflect.Modifier;
import java.util.Comparator;
import java.util.ArrayList;
import java.util.List;
import java.util.NoSuchElementException;
import java.util.Random;

/** For any arguments in any state nothing is thrown but what the document tells (of man alone), and all ends. */
public final class AnyArgumentsTest {
    private static final int[] NUMBERS = {
        Integer.MIN_VALUE, Integer.MIN_VALUE + 1, -1000000, -100, -2, -1, 0, 1, 2, 3, 4, 5, 6, 9, 10, 19, 20, 30, 31,
        59, 60, 61, 99, 100, 101, 240, 999, 1000, 9999, 10000, Integer.MAX_VALUE - 1, Integer.MAX_VALUE,
    };
    private static final String[] RIDES = {
        "", "d", "sl5p5w1m0c0;dx5;dx0v0", "sl30p1w20m9c99;dx30;dx30;dx0;d;dv9r9;d;fx0;fx30;fx5;fx7;fx8d0",
    };
    private static final String[] LAWS = {"", "y:d", "y:[9999*9999*9999]*n/[v-v]", "y:!(v=1|d<2&!m>3)?9-d;y:n"};

    public static void main(String[] args) throws IllegalAccessException {
        Check check = new Check("AnyArgumentsTest");
        List<Method> methods = new ArrayList<>();
        for (Method m : GallopDispatch.class.getDeclaredMethods()) {
            if (Modifier.isPublic(m.getModifiers())) {
                methods.add(m);
            }
        }
        methods.sort(Comparator.comparing(Method::getName));
        Random random = new Random(8);
        for (int run = 0; run < 400; run++) {
            GallopDispatch x = new GallopDispatch();
            if (!LAWS[run / 4 % 4].isEmpty()) {
                Check.hold(x, LAWS[run / 4 % 4]);
            }
            if (!RIDES[run % 4].isEmpty()) {
                Check.tell(x, RIDES[run % 4], 0);
            }
            for (int call = 0; call < 450; call++) {
                Method m = methods.get(random.nextInt(methods.size()));
                try {
                    m.invoke(x, arguments(m, random));
                } catch (InvocationTargetException e) {
                    boolean told = m.getName().equals("man")
                        && e.getCause().getClass() == NoSuchElementException.class
                        && e.getCause().getStackTrace()[0].getClassName().equals("GallopDispatch");
                    check.due(m.getName() + " threw " + e.getCause(), told, true);
                }
            }
            check.due("the object still answers", x.count(99), GallopDispatch.HIDDEN);
        }
        check.end();
    }

    private static Object[] arguments(Method m, Random random) {
        Object[] out = new Object[m.getParameterCount()];
        for (int k = 0; k < out.length; k++) {
            Class<?> type = m.getParameterTypes()[k];
            if (type == int.class) {
                out[k] = NUMBERS[random.nextInt(NUMBERS.length)];
            } else if (type == long.class) {
                out[k] = random.nextBoolean() ? Long.MIN_VALUE : random.nextLong();
            } else {
                out[k] = random.nextBoolean();
            }
        }
        return out;
    }
}
