import java.lang.reflect.Method;
import java.lang.reflect.Modifier;

/** No call throws, whatever its arguments, on a new object and on a full one. */
public final class ExtremesTest {
    private static final int[] NUMBERS = {
        Integer.MIN_VALUE, Integer.MIN_VALUE + 1, -65536, -2, -1, 0, 1, 3, 4, 6, 7, 8, 11, 12, 35, 36, 60, 61, 100,
        101, 300, 399, 400, 500, 501, 2000, 2001, 10000, 10001, 65536, 0x28282828, Integer.MAX_VALUE - 1,
        Integer.MAX_VALUE,
    };

    /** A full sea has had almost 400 of the 512 calls for which an object is used. */
    private static final int CALLS_EACH = 100;

    public static void main(String[] args) throws Exception {
        Check check = new Check("ExtremesTest");
        fullIsFull(check);
        for (Method method : HerringSea.class.getDeclaredMethods()) {
            if (!Modifier.isPublic(method.getModifiers())) {
                continue;
            }
            int kinds = method.getParameterCount();
            int all = 1;
            for (int i = 0; i < Math.min(kinds, 3); i++) {
                all *= NUMBERS.length;
            }
            HerringSea fresh = new HerringSea();
            HerringSea full = full();
            for (int n = 0; n < all; n++) {
                if (n % CALLS_EACH == CALLS_EACH - 1) {
                    fresh = new HerringSea();
                    full = full();
                }
                Object[] arguments = arguments(method, n);
                call(check, method, fresh, arguments);
                call(check, method, full, arguments);
            }
        }
        check.end();
    }

    private static Object[] arguments(Method method, int n) {
        Object[] arguments = new Object[method.getParameterCount()];
        int rest = n;
        for (int i = 0; i < arguments.length; i++) {
            int number = NUMBERS[i < 3 ? rest % NUMBERS.length : (n + 7 * i) % NUMBERS.length];
            rest /= NUMBERS.length;
            boolean isNumber = method.getParameterTypes()[i] == int.class;
            arguments[i] = isNumber ? (Object) number : (Object) (number % 2 == 0);
        }
        return arguments;
    }

    private static void call(Check check, Method method, HerringSea sea, Object[] arguments) throws Exception {
        try {
            method.invoke(sea, arguments);
            check.holds("answered", true);
        } catch (java.lang.reflect.InvocationTargetException thrown) {
            check.holds(method.getName() + java.util.Arrays.toString(arguments) + " threw " + thrown.getCause(), false);
        }
    }

    private static void fullIsFull(Check check) {
        HerringSea full = full();
        check.due("nights of a full sea", full.count(0), 300);
        check.due("boats", full.count(1), 12);
        check.due("yards", full.count(2), 4);
        check.due("lots", full.count(3), 400);
        check.due("bytes", full.count(11), 200);
    }

    /** All that the document limits, at its limit. */
    private static HerringSea full() {
        HerringSea x = new HerringSea();
        for (int n = 0; n < 12; n++) {
            x.boat(60);
            x.go(n, 3 * n);
            x.share(n, 7, 100);
            x.shoal(3 * n, 10000);
        }
        for (int n = 0; n < 4; n++) {
            x.yard(1 + n, 500);
            x.bid(n, 100);
            Tape.brand(x, n, "((((((((c=99999))))))))|s>0&w<5|a=1&(p=100)");
        }
        for (int n = 0; n < 300; n++) {
            x.night(n % 5 == 0);
        }
        for (int n = 0; n < 10; n++) {
            x.feed(0x28282828, 0x28282828, 0x28282828, 0x28282828, 0x28282828);
        }
        return x;
    }
}
