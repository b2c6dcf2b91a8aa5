import java.lang.reflect.InvocationTargetException;
import java.lang.reflect.Method;
import java.lang.reflect.Modifier;
import java.util.ArrayList;
import java.util.Comparator;
import java.util.List;
import java.util.NoSuchElementException;
import java.util.Random;

/** No call throws but look, whatever its arguments and whatever was called ahead of it. */
public final class WildTest {
    private static final int[] NUMBERS = {Integer.MIN_VALUE, Integer.MIN_VALUE + 1, -256, -2, -1, 0, 0, 0, 1, 1, 2, 3, 4, 7,
        8, 10, 12, 15, 16, 24, 40, 60, 100, 255, 256, 500, 501, 999, 1000, Integer.MAX_VALUE - 1, Integer.MAX_VALUE};

    private static boolean mayThrow(Method method, Throwable thrown) {
        boolean told = thrown.getClass() == IndexOutOfBoundsException.class
            || thrown.getClass() == NoSuchElementException.class;
        return told && method.getName().equals("look");
    }

    public static void main(String[] args) throws IllegalAccessException {
        List<Method> methods = new ArrayList<>();
        for (Method method : VanShows.class.getDeclaredMethods()) {
            if (Modifier.isPublic(method.getModifiers())) {
                methods.add(method);
            }
        }
        methods.sort(Comparator.comparing(Method::getName));
        Random random = new Random(5);
        for (int run = 0; run < 2000; run++) {
            VanShows x = new VanShows();
            for (int call = 0; call < 512; call++) {
                Method method = methods.get(random.nextInt(methods.size()));
                Object[] numbers = new Object[method.getParameterCount()];
                for (int i = 0; i < numbers.length; i++) {
                    numbers[i] = random.nextInt(3) == 0 ? NUMBERS[random.nextInt(NUMBERS.length)] : random.nextInt(12);
                }
                try {
                    method.invoke(x, numbers);
                } catch (InvocationTargetException e) {
                    Check.due(method + " threw " + e.getCause(), mayThrow(method, e.getCause()), true);
                }
            }
        }
        Check.end();
    }
}
