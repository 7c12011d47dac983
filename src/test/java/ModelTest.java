import java.lang.reflect.InvocationTargetException;
import java.lang.reflect.Method;
import java.lang.reflect.Modifier;
import java.util.ArrayList;
import java.util.Arrays;
import java.util.Comparator;
import java.util.HashMap;
import java.util.List;
import java.util.Map;
import java.util.Random;
import java.util.TreeMap;

/**
 * Whole events, 512 calls each: the class and the Model must answer every call alike, or throw the same. Most calls
 * are likely ones, so that there are results to ask for; some have numbers at the edges or far out.
 */
public final class ModelTest {
    private static final int CALLS = 512;
    private static final int[] EDGES = {-1, -2, 0, 1, 3, 4, 6, 9, 10, 12, 13, 20, 99, 100, 999, 1000, 9999, 10000, 99999,
        100000, Integer.MAX_VALUE, Integer.MIN_VALUE};
    private static final String[] ASKS = {"state", "time", "split", "place", "reference", "pace", "loss", "points",
        "startOf", "cost", "misled", "areNear", "isLawful", "lengthOf", "isFair", "fairWays", "mayHave", "okShare",
        "meanTime", "checksum", "isSound", "late", "changeover", "score"};
    private static final String[] RULINGS = {"dead", "stolen", "voided", "rule", "stolen", "voided", "rule", "cell",
        "show", "print", "fix", "fix", "fix"};
    private static final String[] ENTRIES = {"control", "course", "add", "fork", "runner", "branches", "start", "draw",
        "team", "runs", "runs", "chase", "punch", "finish"};
    private static final String[] CROWDS = {"punch", "punch", "fix", "fix", "runner", "team", "course", "control", "add"};
    private static final Map<String, Method> OF_CLASS = new TreeMap<>();
    private static final Map<String, Method> OF_MODEL = new HashMap<>();
    private static final Map<String, int[]> COUNTS = new TreeMap<>();
    private static final Check CHECK = new Check();

    private final Random random;
    private final ControlWood wood = new ControlWood();
    private final Model model = new Model();
    private final List<String> told = new ArrayList<>();
    private int calls;

    private ModelTest(int seed) {
        random = new Random(seed);
    }

    public static void main(String[] args) throws NoSuchMethodException {
        Method[] all = ControlWood.class.getDeclaredMethods();
        Arrays.sort(all, Comparator.comparing(Method::getName));
        for (Method method : all) {
            if (Modifier.isPublic(method.getModifiers())) {
                OF_CLASS.put(method.getName(), method);
                OF_MODEL.put(method.getName(), Model.class.getDeclaredMethod(method.getName(), method.getParameterTypes()));
                COUNTS.put(method.getName(), new int[2]);
            }
        }
        for (int seed = 0; seed < 1200; seed++) {
            new ModelTest(seed).event();
        }
        // Where a method was never answered, or never refused though it can be, nothing was compared.
        for (Map.Entry<String, int[]> count : COUNTS.entrySet()) {
            boolean canThrow = OF_CLASS.get(count.getKey()).getExceptionTypes().length > 0;
            CHECK.holds(count.getKey() + " is answered often", count.getValue()[0] >= 500);
            CHECK.holds(count.getKey() + " is refused often", !canThrow || count.getValue()[1] >= 50);
        }
        CHECK.end();
    }

    private void event() {
        begin();
        while (calls < CALLS) {
            int lot = random.nextInt(100);
            if (lot < 8) {
                run(pick(model.runners.size()));
            } else if (lot < 22) {
                ask(ENTRIES[random.nextInt(ENTRIES.length)]);
            } else if (lot < 40) {
                ask(RULINGS[random.nextInt(RULINGS.length)]);
            } else if (lot == 40 && random.nextInt(8) == 0) {
                begin();
            } else if (lot == 41 && random.nextInt(3) == 0) {
                crowd();
            } else {
                ask(ASKS[random.nextInt(ASKS.length)]);
            }
        }
    }

    private void begin() {
        if (random.nextInt(4) > 0 || calls > 0) {
            ask("land");
        }
        for (int i = random.nextInt(20); i > 0; i--) {
            ask(random.nextInt(4) > 0 ? "cell" : "show");
        }
        if (random.nextBoolean()) {
            ask("print");
        }
        for (int i = 2 + random.nextInt(6); i > 0; i--) {
            ask("control");
        }
        for (int i = 1 + random.nextInt(3); i > 0; i--) {
            ask("course");
        }
        for (int i = random.nextInt(12); i > 0; i--) {
            ask("add");
        }
        for (int i = random.nextInt(5); i > 0; i--) {
            ask("fork");
        }
        for (int i = 2 + random.nextInt(6); i > 0; i--) {
            ask("runner");
        }
        for (int i = random.nextInt(4); i > 0; i--) {
            ask("team");
        }
    }

    /** Lets a runner run, mostly by the course, now and then past a control. */
    private void run(int number) {
        if (number >= model.runners.size()) {
            ask("runner");
            return;
        }
        Model.Runner runner = model.runners.get(number);
        if (runner.finish != null) {
            return;
        }
        if (random.nextBoolean()) {
            call("branches", number, random.nextInt(1 << runner.course.forks()));
        }
        if (runner.start == null || random.nextInt(3) == 0) {
            call("start", number, random.nextInt(200));
        }
        for (Model.Control control : runner.course.controls(runner.branches)) {
            while (random.nextInt(5) == 0) {
                call("punch", number, pick(model.controls.size()), later(runner, 20));
            }
            if (random.nextInt(8) > 0) {
                call("punch", number, model.controls.indexOf(control), later(runner, random.nextBoolean() ? 60 : 3));
            }
        }
        call("finish", number, later(runner, 50));
    }

    /** Tells more of one thing than can be kept. */
    private void crowd() {
        String name = CROWDS[random.nextInt(CROWDS.length)];
        int number = pick(model.runners.size());
        if (name.equals("punch")) {
            call("start", number, random.nextInt(200));
        }
        for (int i = 0; i < 22; i++) {
            if (name.equals("punch") || name.equals("fix")) {
                call(name, toldBy(number, name));
            } else if (i < 14) {
                ask(name);
            }
        }
    }

    private Object[] toldBy(int number, String name) {
        if (number >= model.runners.size()) {
            return new Object[] {number, 0, 0};
        }
        Model.Runner runner = model.runners.get(number);
        if (name.equals("punch")) {
            return new Object[] {number, pick(model.controls.size()), later(runner, 15)};
        }
        int[] numbers = fix(number, random.nextInt(model.cells()));
        return new Object[] {numbers[0], numbers[1], numbers[2]};
    }

    private int later(Model.Runner runner, int most) {
        return (runner.start == null ? 0 : runner.last()) + random.nextInt(most);
    }

    private int pick(int count) {
        return count == 0 ? 0 : random.nextInt(count);
    }

    private void ask(String name) {
        Class<?>[] types = OF_CLASS.get(name).getParameterTypes();
        Object[] args = new Object[types.length];
        int[] numbers = likely(name);
        boolean isWild = random.nextInt(name.equals("land") ? 5 : 25) == 0;
        for (int i = 0; i < types.length; i++) {
            if (types[i] == boolean.class) {
                args[i] = random.nextBoolean();
            } else if (types[i] == char.class) {
                args[i] = random.nextInt(50) == 0 ? '?' : "....wxw".charAt(random.nextInt(7));
            } else if (isWild && random.nextBoolean()) {
                args[i] = EDGES[random.nextInt(EDGES.length)];
            } else {
                args[i] = numbers[i];
            }
        }
        call(name, args);
    }

    /** Numbers that the call likely takes; those in the places of kinds and booleans are not used. */
    private int[] likely(String name) {
        int cell = random.nextInt(model.cells());
        int control = pick(model.controls.size());
        int course = pick(model.courses.size());
        int runner = pick(model.runners.size());
        int forks = model.courses.isEmpty() ? 0 : model.courses.get(course).forks();
        switch (name) {
            case "land":
                int most = random.nextInt(8) == 0 ? 10 : 4;
                return new int[] {3 + random.nextInt(most), 3 + random.nextInt(most)};
            case "cell":
                return new int[] {cell, random.nextInt(10), random.nextInt(10), 0};
            case "show":
                return new int[] {cell, random.nextInt(10), 0};
            case "cost":
            case "misled":
                return new int[] {cell, random.nextInt(model.cells()), 0};
            case "control":
                return new int[] {cell, random.nextInt(4), random.nextInt(100)};
            case "areNear":
                return new int[] {control, pick(model.controls.size())};
            case "course":
                return new int[] {cell};
            case "add":
                return new int[] {course, control};
            case "fork":
                int places = model.courses.isEmpty() ? 0 : model.courses.get(course).own.size();
                return new int[] {course, pick(places), control};
            case "runner":
                return new int[] {random.nextInt(3), course};
            case "branches":
                int own = model.runners.isEmpty() ? 0 : model.runners.get(runner).course.forks();
                return new int[] {runner, random.nextInt((1 << own) + 1)};
            case "draw":
                return new int[] {course, random.nextInt(100000), random.nextInt(300), random.nextInt(30)};
            case "dead":
                int from = random.nextInt(300);
                return new int[] {control, from, from + random.nextInt(60)};
            case "stolen":
                return new int[] {control, random.nextInt(400) - 1};
            case "score":
                // The Model looks at all orders, so it can't be asked for far ways among many controls.
                boolean isFew = model.controls.size() <= 5;
                return new int[] {cell, random.nextInt(isFew ? 400 : 60), 1 + random.nextInt(isFew ? 2000 : 700)};
            case "team":
                return new int[] {random.nextInt(3) > 0 ? 0 : course, 1 + random.nextInt(3)};
            case "runs":
                return new int[] {pick(model.teams.size()), random.nextInt(3), random.nextInt((1 << forks) + 1)};
            case "late":
                return new int[] {random.nextInt(900), random.nextInt(700), random.nextInt(100)};
            case "changeover":
                return new int[] {random.nextInt(3), random.nextInt(500), random.nextInt(500), random.nextInt(1000) - 1};
            case "chase":
                return new int[] {course, pick(model.courses.size()), random.nextInt(500)};
            case "fix":
                return fix(runner, cell);
            default:
                return ofRunnerOrCourse(name, runner, course, control);
        }
    }

    private int[] fix(int runner, int cell) {
        int last = 0;
        if (!model.runners.isEmpty() && !model.runners.get(runner).fixes.isEmpty()) {
            List<int[]> fixes = model.runners.get(runner).fixes;
            last = fixes.get(fixes.size() - 1)[1];
        }
        return new int[] {runner, cell, last + random.nextInt(200)};
    }

    private int[] ofRunnerOrCourse(String name, int runner, int course, int control) {
        boolean isThere = runner < model.runners.size();
        int legs = isThere ? model.runners.get(runner).course.own.size() + 1 : 1;
        switch (name) {
            case "split":
            case "reference":
            case "loss":
                return new int[] {runner, random.nextInt(legs)};
            case "mayHave":
                return new int[] {runner, control};
            case "start":
                return new int[] {runner, random.nextInt(200)};
            case "rule":
                return new int[] {runner, random.nextInt(250) - 1};
            case "punch":
                return new int[] {runner, control, isThere ? later(model.runners.get(runner), 30) : 0};
            case "finish":
                return new int[] {runner, isThere ? later(model.runners.get(runner), 30) : 0};
            case "voided":
                int places = model.courses.isEmpty() ? 0 : model.courses.get(course).own.size();
                return new int[] {course, random.nextInt(places + 1), 0};
            case "isLawful":
            case "lengthOf":
            case "okShare":
            case "meanTime":
                return new int[] {course};
            default:
                return new int[] {runner};
        }
    }

    private void call(String name, Object... args) {
        if (calls >= CALLS || name.equals("score") && isTooFar(args)) {
            return;
        }
        calls++;
        Object due = answer(OF_MODEL.get(name), model, args);
        Object got = answer(OF_CLASS.get(name), wood, args);
        told.add(name + Arrays.toString(args) + " " + due);
        COUNTS.get(name)[due instanceof Class ? 1 : 0]++;
        if (!due.equals(got)) {
            CHECK.holds(name + Arrays.toString(args) + " answered " + got + ", due is " + due + ", behind " + told, false);
            calls = CALLS;
        } else {
            CHECK.holds(name, true);
        }
    }

    private boolean isTooFar(Object[] args) {
        int count = model.controls.size();
        return count > 8 || count > 5 && ((int) args[1] > 60 || (int) args[2] < 200);
    }

    private static Object answer(Method method, Object object, Object[] args) {
        try {
            method.setAccessible(true);
            return method.invoke(object, args);
        } catch (InvocationTargetException e) {
            if (!(e.getCause() instanceof RuntimeException)) {
                throw new IllegalStateException(e);
            }
            return e.getCause().getClass();
        } catch (IllegalAccessException e) {
            throw new IllegalStateException(e);
        }
    }
}
