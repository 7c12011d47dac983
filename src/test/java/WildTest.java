import java.lang.reflect.InvocationTargetException;
import java.lang.reflect.Method;
import java.util.ArrayList;
import java.util.Arrays;
import java.util.Comparator;
import java.util.List;
import java.util.Random;

/**
 * Random calls with likely and with absurd numbers: only documented exceptions come, a call that
 * throws changes nothing, and the same calls give the same answers.
 */
public final class WildTest {
    private static final int[] ABSURD = {-2, -1, 0, 1, 9, 12, 20, 100, 9999, 99999, 100000, 1 << 16, -1 << 16,
        Integer.MAX_VALUE, Integer.MIN_VALUE};
    private static final String[] BUILDERS = {"control", "course", "add", "fork", "runner", "start", "punch", "finish",
        "team", "fix"};
    private static final Check CHECK = new Check();

    private final Random random;
    private final List<Method> methods = new ArrayList<>();
    private int seconds;

    private WildTest(int seed) {
        random = new Random(seed);
        for (Method method : ControlWood.class.getDeclaredMethods()) {
            if (java.lang.reflect.Modifier.isPublic(method.getModifiers())) {
                methods.add(method);
                boolean isBuilder = Arrays.asList(BUILDERS).contains(method.getName());
                for (int i = 0; isBuilder && i < 5; i++) {
                    methods.add(method);
                }
            }
        }
        methods.sort(Comparator.comparing(Method::toString));
    }

    public static void main(String[] args) {
        for (int seed = 0; seed < 300; seed++) {
            new WildTest(seed).run();
        }
        CHECK.end();
    }

    private void run() {
        ControlWood one = new ControlWood();
        ControlWood other = new ControlWood();
        ControlWood calm = new ControlWood();
        for (int i = 0; i < 512; i++) {
            Method method = methods.get(random.nextInt(methods.size()));
            if (method.getName().equals("land") && random.nextInt(20) > 0) {
                continue;
            }
            Object[] args = args(method);
            Object answer = call(method, one, args);
            CHECK.holds("the same answers: " + method, answer.equals(call(method, other, args)));
            // What throws is never told to the third one, which must answer all the same.
            if (!(answer instanceof Class)) {
                CHECK.holds("nothing changed: " + method, answer.equals(call(method, calm, args)));
            }
        }
    }

    private Object call(Method method, ControlWood wood, Object[] args) {
        try {
            return method.invoke(wood, args);
        } catch (InvocationTargetException e) {
            Class<?> thrown = e.getCause().getClass();
            boolean isDue = Arrays.asList(method.getExceptionTypes()).contains(thrown);
            CHECK.holds(method + Arrays.toString(args) + " threw " + e.getCause(), isDue);
            return thrown;
        } catch (IllegalAccessException e) {
            throw new IllegalStateException(e);
        }
    }

    private Object[] args(Method method) {
        Class<?>[] types = method.getParameterTypes();
        Object[] args = new Object[types.length];
        int wrong = random.nextInt(40);
        for (int i = 0; i < types.length; i++) {
            if (types[i] == boolean.class) {
                args[i] = random.nextBoolean();
            } else if (types[i] == char.class) {
                args[i] = "..wx?".charAt(random.nextInt(5));
            } else {
                args[i] = wrong == i ? ABSURD[random.nextInt(ABSURD.length)] : likely(method.getName(), i);
            }
        }
        return args;
    }

    private int likely(String name, int index) {
        if (index == 2 && (name.equals("punch") || name.equals("fix")) || index == 1 && name.equals("finish")) {
            seconds += random.nextInt(40);
            return seconds;
        }
        if (name.equals("land")) {
            return 3 + random.nextInt(10);
        }
        boolean isCell = name.equals("cost") || name.equals("misled") || name.equals("course")
                || index == 0 && (name.equals("cell") || name.equals("show") || name.equals("control"))
                || index == 1 && name.equals("fix");
        if (isCell) {
            return random.nextInt(25);
        }
        return random.nextInt(index == 0 ? 4 : random.nextInt(6) == 0 ? 10 : 3);
    }
}
