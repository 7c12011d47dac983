import java.lang.reflect.Constructor;
import java.lang.reflect.Field;
import java.lang.reflect.Method;
import java.lang.reflect.Modifier;
import java.util.Arrays;
import java.util.HashMap;
import java.util.HashSet;
import java.util.Map;
import java.util.Set;

/** The public face is that of the document, to the letter, and nothing else of the class can be seen. */
public final class FaceTest {
    private static final String I = " throws IndexOutOfBoundsException";
    private static final String A = " throws IllegalArgumentException";
    private static final String IA = I + ", IllegalArgumentException";
    private static final String IN = I + ", NoSuchElementException";
    private static final String IU = I + ", UnsupportedOperationException";
    private static final String[] FACE = {
        "int land(int, int)" + A,
        "int cell(int, int, int, char)" + IA,
        "int print()",
        "int show(int, int, char)" + IA,
        "int cost(int, int, boolean)" + IN,
        "int misled(int, int)" + IN,
        "int control(int, int, int)" + IA + ", UnsupportedOperationException, IllegalStateException",
        "boolean areNear(int, int)" + I,
        "int course(int)" + I + ", IllegalStateException",
        "int add(int, int)" + IU + ", IllegalStateException",
        "int fork(int, int, int)" + IU + ", IllegalArgumentException",
        "boolean isLawful(int)" + I,
        "int lengthOf(int)" + IN,
        "int runner(int, int)" + A + ", IndexOutOfBoundsException, IllegalStateException",
        "int branches(int, int)" + IA + ", UnsupportedOperationException",
        "int start(int, int)" + IA + ", UnsupportedOperationException",
        "int draw(int, int, int, int)" + IA + ", UnsupportedOperationException",
        "int startOf(int)" + IN,
        "int punch(int, int, int)" + IU + ", IllegalArgumentException, IllegalStateException",
        "int finish(int, int)" + IU + ", IllegalArgumentException",
        "int dead(int, int, int)" + IA,
        "int stolen(int, int)" + IA,
        "boolean voided(int, int, boolean)" + I,
        "int rule(int, int)" + IU + ", IllegalArgumentException",
        "char state(int)" + I,
        "int time(int)" + IN,
        "int split(int, int)" + IN,
        "int place(int)" + IN,
        "int reference(int, int)" + IN,
        "int pace(int)" + IN,
        "int loss(int, int)" + IN,
        "int points(int)" + IN,
        "int team(int, int)" + IA + ", IllegalStateException",
        "int runs(int, int, int)" + IA,
        "boolean isFair()",
        "int fairWays() throws UnsupportedOperationException",
        "int changeover(int, int, int, int)" + A,
        "int chase(int, int, int)" + IA + ", IllegalStateException",
        "int score(int, int, int)" + IA,
        "int late(int, int, int)" + A,
        "int fix(int, int, int)" + IA + ", IllegalStateException",
        "boolean mayHave(int, int)" + I,
        "float okShare(int)" + I + ", ArithmeticException",
        "double meanTime(int)" + I + ", ArithmeticException",
        "long checksum()",
        "boolean isSound()",
    };

    private static final Check CHECK = new Check();

    public static void main(String[] args) {
        Class<?> wood = ControlWood.class;
        CHECK.holds("public and final", wood.getModifiers() == (Modifier.PUBLIC | Modifier.FINAL));
        Constructor<?>[] made = wood.getDeclaredConstructors();
        CHECK.holds("one constructor", made.length == 1 && made[0].getParameterCount() == 0
                && made[0].getModifiers() == Modifier.PUBLIC);
        methods(wood);
        for (Field field : wood.getDeclaredFields()) {
            CHECK.holds("private: " + field, Modifier.isPrivate(field.getModifiers()));
        }
        for (Class<?> inside : wood.getDeclaredClasses()) {
            int is = inside.getModifiers();
            CHECK.holds("inside: " + inside, Modifier.isStatic(is) && !Modifier.isPublic(is) && !Modifier.isProtected(is));
        }
        CHECK.end();
    }

    private static void methods(Class<?> wood) {
        Map<String, Integer> seen = new HashMap<>();
        Set<String> names = new HashSet<>();
        for (Method method : wood.getDeclaredMethods()) {
            if (Modifier.isPublic(method.getModifiers())) {
                CHECK.holds("an object's: " + method, method.getModifiers() == Modifier.PUBLIC);
                seen.merge(told(method), 1, Integer::sum);
                names.add(method.getName());
            } else {
                CHECK.holds("private: " + method, Modifier.isPrivate(method.getModifiers()));
            }
        }
        for (String one : FACE) {
            CHECK.holds("has " + one, seen.containsKey(one));
        }
        CHECK.holds("has nothing else", seen.size() == FACE.length);
        for (Method method : wood.getDeclaredMethods()) {
            boolean isHidden = Modifier.isPrivate(method.getModifiers());
            CHECK.holds("no private namesake: " + method, !isHidden || !names.contains(method.getName()));
        }
    }

    private static String told(Method method) {
        String parts = Arrays.toString(method.getParameterTypes());
        StringBuilder thrown = new StringBuilder();
        for (Class<?> one : method.getExceptionTypes()) {
            thrown.append(thrown.length() == 0 ? " throws " : ", ").append(one.getSimpleName());
        }
        return method.getReturnType() + " " + method.getName() + "(" + parts.substring(1, parts.length() - 1) + ")" + thrown;
    }
}
