import java.lang.reflect.InvocationTargetException;
import java.lang.reflect.Method;
import java.lang.reflect.Modifier;
import java.util.Arrays;
import java.util.Comparator;

/** Every call with arguments from the edges of every type, in several states: none may throw, and what is asked changes nothing. */
public final class WildTests {
    private static final int[] INTS = {Integer.MIN_VALUE, -2, -1, 0, 1, 2, 3, 5, 60, 61, Integer.MAX_VALUE};
    private static final long[] LONGS = {Long.MIN_VALUE, -1, 0, 1, Long.MAX_VALUE};
    private static final String ASKING = " of marginOf cell sum gap farthest told rounded together cross orders rank fitting odds"
            + " mean after looked judge image count peek ";
    private static int wrong = 0;
    private static int calls = 0;

    public static void main(String[] args) throws IllegalAccessException {
        Method[] all = RakeTables.class.getDeclaredMethods();
        Arrays.sort(all, Comparator.comparing(Method::getName));
        for (Method method : all) {
            if (!Modifier.isPublic(method.getModifiers())) continue;
            for (int state = 0; state < 4; state++) callAll(method, state);
        }
        System.out.println(wrong == 0 ? "none of " + calls + " wild calls threw" : wrong + " wild calls went wrong");
        if (wrong != 0) System.exit(1);
    }

    private static RakeTables made(int state) {
        RakeTables x = new RakeTables();
        if (state == 0) return x;
        x.size(state, 4 - state);
        for (int i = 0; i < state; i++) {
            for (int j = 0; j < 4 - state; j++) {
                x.tell(i, j, 3 * i + 2 * j);
                x.mark(i, j, (i + j) % 3);
            }
        }
        x.three(state == 2);
        x.rounds(state);
        x.see(0, 0, 1);
        x.event(3, 60);
        x.book(0, 0, 1);
        for (int tape = 0; tape < 5; tape++) x.tape(tape, tape, 3);
        x.tape(5, state == 3 ? 2 : -1, 60);
        if (state > 1) x.image();
        for (int p = 0; p < state; p++) x.feed("n0;".charAt(p));
        return x;
    }

    private static void callAll(Method method, int state) throws IllegalAccessException {
        Class<?>[] types = method.getParameterTypes();
        int many = 1;
        for (Class<?> type : types) many *= valuesOf(type);
        // Five arguments make 161051 calls a state: a step without a divisor of it still comes to each value.
        int step = many > 20000 ? 13 : 1;
        boolean isAsking = ASKING.contains(" " + method.getName() + " ");
        long before = seenOf(made(state));
        RakeTables x = made(state);
        for (int call = 0, done = 1; call < many; call += step, done++) {
            Object[] arguments = argumentsOf(types, call);
            calls++;
            try {
                method.invoke(x, arguments);
            } catch (InvocationTargetException e) {
                wrong++;
                System.out.println(method.getName() + Arrays.toString(arguments) + " threw " + e.getCause());
                return;
            }
            // Behind an object's 512th call nothing is promised.
            if (done % 300 != 0 && call + step < many) continue;
            if (isAsking && seenOf(x) != before) {
                wrong++;
                System.out.println(method.getName() + " changed something in state " + state);
                return;
            }
            x = made(state);
        }
    }

    private static int valuesOf(Class<?> type) {
        return type == int.class ? INTS.length : type == long.class ? LONGS.length : 2;
    }

    private static Object[] argumentsOf(Class<?>[] types, int call) {
        Object[] all = new Object[types.length];
        int rest = call;
        for (int a = 0; a < types.length; a++) {
            int which = rest % valuesOf(types[a]);
            rest /= valuesOf(types[a]);
            if (types[a] == int.class) all[a] = INTS[which];
            else if (types[a] == long.class) all[a] = LONGS[which];
            else all[a] = which == 1;
        }
        return all;
    }

    /** All answers that can be seen, in one number. */
    private static long seenOf(RakeTables x) {
        long all = 0;
        for (int what = 0; what < 8; what++) all = 31 * all + x.told(what);
        for (int what = 0; what < 4; what++) all = 31 * all + x.count(what);
        for (int a = 0; a < 3; a++) {
            for (int b = 0; b < 3; b++) {
                all = 31 * all + x.of(a, b, 0);
                all = 31 * all + x.of(a, b, 1);
                all = 31 * all + x.marginOf(a, b);
                all = 31 * all + x.cell(a, b, 0);
                all = 31 * all + x.cell(a, b, 1);
                all = 31 * all + x.rounded(a, b);
                all = 31 * all + x.fitting(a, b, 0);
            }
            all = 31 * all + x.after(a);
        }
        for (int tape = 0; tape < 6; tape++) all = 31 * all + x.peek(tape, 2);
        return 31 * all + x.looked();
    }
}
