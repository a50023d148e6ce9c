import java.lang.reflect.InvocationTargetException;
import java.lang.reflect.Method;
import java.lang.reflect.Modifier;
import java.util.ArrayList;
import java.util.Arrays;
import java.util.Comparator;
import java.util.List;

/**
 * Every call with every choice of small, great and far arguments, in an empty, a rich and a full object: none throws, and
 * told() counts each ERROR just once, and nothing else.
 */
public final class WildTest {
    private static final int[] FAR = {Integer.MIN_VALUE, -1, 0, 1, 2, 5, 8, 16, 24, 60, 100, Integer.MAX_VALUE};
    private static final int[] NEAR = {Integer.MIN_VALUE, -1, 0, 1, 3, 8, Integer.MAX_VALUE};
    /** A call, and what told() tells of all six: 7 calls at a time, so that 512 are not passed. */
    private static final int TURNS = 40;
    private static final int ERRORS = 6;

    private final Scene scene;
    private HoleWater x;
    private int[] told = new int[ERRORS + 1];
    private int turns = TURNS;
    private int calls = 0;
    private int wrong = 0;

    private WildTest(Scene scene) {
        this.scene = scene;
    }

    public static void main(String[] args) throws ReflectiveOperationException {
        int calls = 0;
        int wrong = 0;
        for (Scene scene : Scene.values()) {
            WildTest test = new WildTest(scene);
            for (Method method : face()) {
                test.sweep(method);
            }
            calls += test.calls;
            wrong += test.wrong;
        }
        System.out.println(calls + " wild calls, " + wrong + " not as due");
        if (wrong > 0 || calls == 0) {
            System.exit(1);
        }
    }

    private static List<Method> face() {
        List<Method> all = new ArrayList<>();
        for (Method method : HoleWater.class.getDeclaredMethods()) {
            if (Modifier.isPublic(method.getModifiers())) {
                all.add(method);
            }
        }
        all.sort(Comparator.comparing(Method::getName));
        return all;
    }

    private void sweep(Method method) throws ReflectiveOperationException {
        Class<?>[] types = method.getParameterTypes();
        int[] values = types.length < 4 ? FAR : NEAR;
        int choices = 1;
        for (int i = 0; i < types.length; i++) {
            choices *= values.length;
        }
        for (int choice = 0; choice < choices; choice++) {
            Object[] arguments = new Object[types.length];
            int rest = choice;
            for (int i = 0; i < types.length; i++) {
                int v = values[rest % values.length];
                rest /= values.length;
                arguments[i] = types[i] == boolean.class ? (Object) (v > 0) : types[i] == long.class ? (Object) (v * 0x100000001L) : v;
            }
            callOne(method, arguments);
        }
    }

    private void callOne(Method method, Object[] arguments) throws ReflectiveOperationException {
        if (turns >= TURNS) {
            x = scene.make();
            tellAll(told);
            turns = 0;
        }
        turns++;
        calls++;
        int answer;
        try {
            answer = (int) method.invoke(x, arguments);
        } catch (InvocationTargetException thrown) {
            say(method, arguments, "threw " + thrown.getCause());
            turns = TURNS;
            return;
        }
        int k = -1000000 - answer;
        // a VOICE may come to such a number without an ERROR
        boolean maybe = method.getName().equals("voice") && k != ERRORS;
        int[] now = new int[ERRORS + 1];
        tellAll(now);
        for (int i = 1; i <= ERRORS && !maybe; i++) {
            if (now[i] - told[i] != (i == k ? 1 : 0)) {
                say(method, arguments, "answered " + answer + ", and told(" + i + ") went from " + told[i] + " to " + now[i]);
            }
        }
        told = now;
    }

    private void tellAll(int[] all) {
        for (int k = 1; k <= ERRORS; k++) {
            all[k] = x.told(k);
        }
    }

    private void say(Method method, Object[] arguments, String what) {
        wrong++;
        if (wrong < 20) {
            System.out.println(scene + ": " + method.getName() + Arrays.toString(arguments) + " " + what);
        }
    }
}
