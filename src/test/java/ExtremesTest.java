import java.lang.reflect.InvocationTargetException;
import java.lang.reflect.Method;
import java.lang.reflect.Modifier;
import java.util.Arrays;
import java.util.Set;
import java.util.function.Supplier;

/** Each call with ints near the ends of all ints: there are none such, nothing is thrown, nothing changes. */
public final class ExtremesTest extends Calls {
    private static final int MOST = Integer.MAX_VALUE;
    private static final int LEAST = Integer.MIN_VALUE;
    private static final int[] ENDS = {0, LEAST, LEAST + 1, LEAST + 10, LEAST + 20, -(1 << 30), 1 << 30, MOST - 20, MOST - 1, MOST};
    private static final int CALLS = 100;
    /** Numbers of these that are too great are answered by NOT SO MANY. */
    private static final Set<String> MANY = Set.of("key", "layer", "foundAt");

    /** The ints of the so-manieth call; null: each of them is 0, which may be one. */
    private static Object[] intsOf(Method method, int number) {
        Object[] given = new Object[method.getParameterCount()];
        int left = number;
        boolean isOne = false;
        for (int p = 0; p < given.length; p++) {
            if (method.getParameterTypes()[p] == boolean.class) {
                given[p] = number % 2 == 0;
                continue;
            }
            given[p] = ENDS[left % ENDS.length];
            isOne = isOne || left % ENDS.length > 0;
            left /= ENDS.length;
        }
        return isOne ? given : null;
    }

    private static void is(Method method, PageTrie x, Object[] given) throws IllegalAccessException {
        String call = method.getName() + Arrays.toString(given);
        try {
            int got = (Integer) method.invoke(x, given);
            int want = method.getName().equals("check") ? -2 : -1;
            boolean isMany = got == -4 && MANY.contains(method.getName());
            is(call, isMany ? want : got, want);
        } catch (InvocationTargetException thrown) {
            is(call + " has thrown " + thrown.getCause(), 1, 0);
        }
    }

    private static void sweep(Method method, Supplier<PageTrie> made) throws IllegalAccessException {
        int all = (int) Math.pow(ENDS.length, method.getParameterCount());
        for (int from = 0; from < all; from += CALLS) {
            PageTrie x = made.get();
            told(x, "a".repeat(40));
            String before = RefusedTest.state(x);
            for (int number = from; number < Math.min(all, from + CALLS); number++) {
                Object[] given = intsOf(method, number);
                if (given != null) {
                    is(method, x, given);
                }
            }
            is(method.getName() + ": the tape", x.count(15), 40);
            is(method.getName() + ": all is as it was", RefusedTest.state(x).equals(before), true);
        }
    }

    public static void main(String[] args) throws IllegalAccessException {
        says("NONE: no such ones");
        int methods = 0;
        for (Method method : PageTrie.class.getDeclaredMethods()) {
            boolean isAsked = Modifier.isPublic(method.getModifiers()) && method.getParameterCount() > 0;
            if (isAsked && !method.getName().equals("feed")) {
                methods++;
                sweep(method, RefusedTest::scene);
                sweep(method, PageTrie::new);
                sweep(method, Calls::full);
            }
        }
        is("calls looked at", methods, 27);
        DUE.end("ExtremesTest");
    }
}
