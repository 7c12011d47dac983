import java.util.ArrayList;
import java.util.List;
import java.util.function.Supplier;

/**
 * Asks all that can be found out of an object of 5 columns and 5 rows, also with calls that change it; part by
 * part, each on an object of its own, so that no object is asked more than some 200 calls.
 */
final class Probe {
    private static final int CELLS = 25;
    private static final int NUMBERS = 13;
    private static final int COURSES = 7;
    private static final int LEGS = 11;
    private static final int MOST_CALLS = 200;
    private static final List<List<Edge.Call>> PARTS = parts();

    private Probe() {
    }

    static List<String> of(Supplier<ControlWood> made) {
        List<String> answers = new ArrayList<>();
        for (List<Edge.Call> part : PARTS) {
            ControlWood wood = made.get();
            for (Edge.Call call : part) {
                answers.add(Check.told(() -> call.on(wood)));
            }
        }
        return answers;
    }

    private static List<List<Edge.Call>> parts() {
        List<List<Edge.Call>> parts = new ArrayList<>();
        cut(parts, ways());
        cut(parts, controlsAndCourses());
        cut(parts, results());
        cut(parts, tracks());
        cut(parts, rulings());
        cut(parts, toldOfRunners());
        cut(parts, drawn());
        cut(parts, deadSeconds());
        for (int first = 0; first < NUMBERS; first += 3) {
            cut(parts, found(first, Math.min(NUMBERS, first + 3)));
        }
        cut(parts, relayAndNumbers());
        return parts;
    }

    private static void cut(List<List<Edge.Call>> parts, List<Edge.Call> calls) {
        for (int from = 0; from < calls.size(); from += MOST_CALLS) {
            parts.add(calls.subList(from, Math.min(calls.size(), from + MOST_CALLS)));
        }
    }

    /** Steps tell growths, heights and kinds of land and map. */
    private static List<Edge.Call> ways() {
        List<Edge.Call> calls = new ArrayList<>();
        for (int i = 0; i <= CELLS; i++) {
            int cell = i;
            for (int next : new int[] {cell - 5, cell - 1, cell + 1, cell + 5}) {
                calls.add(w -> w.cost(cell, next, true));
                calls.add(w -> w.cost(cell, next, false));
            }
            calls.add(w -> w.misled(0, cell));
        }
        return calls;
    }

    private static List<Edge.Call> controlsAndCourses() {
        List<Edge.Call> calls = new ArrayList<>();
        for (int i = 0; i < NUMBERS; i++) {
            int one = i;
            for (int k = 0; k <= i; k++) {
                int other = k;
                calls.add(w -> w.areNear(one, other));
            }
        }
        for (int i = 0; i < COURSES; i++) {
            int course = i;
            calls.add(w -> w.isLawful(course));
            calls.add(w -> w.lengthOf(course));
            calls.add(w -> w.okShare(course));
            calls.add(w -> w.meanTime(course));
        }
        calls.add(w -> w.isSound());
        return calls;
    }

    private static List<Edge.Call> results() {
        List<Edge.Call> calls = new ArrayList<>();
        for (int i = 0; i < NUMBERS; i++) {
            int runner = i;
            calls.add(w -> w.state(runner));
            calls.add(w -> w.startOf(runner));
            calls.add(w -> w.time(runner));
            calls.add(w -> w.place(runner));
            calls.add(w -> w.pace(runner));
            calls.add(w -> w.points(runner));
            for (int k = 0; k < LEGS; k++) {
                int leg = k;
                calls.add(w -> w.split(runner, leg));
                calls.add(w -> w.reference(runner, leg));
                calls.add(w -> w.loss(runner, leg));
            }
        }
        return calls;
    }

    private static List<Edge.Call> tracks() {
        List<Edge.Call> calls = new ArrayList<>();
        for (int i = 0; i < NUMBERS; i++) {
            int runner = i;
            for (int k = 0; k < NUMBERS; k++) {
                int control = k;
                calls.add(w -> w.mayHave(runner, control));
            }
            calls.add(w -> w.fix(runner, 0, Integer.MAX_VALUE));
        }
        return calls;
    }

    private static List<Edge.Call> rulings() {
        List<Edge.Call> calls = new ArrayList<>();
        calls.add(w -> w.checksum());
        for (int i = 0; i < NUMBERS; i++) {
            int control = i;
            calls.add(w -> w.stolen(control, -1));
            calls.add(w -> w.dead(control, 0, Integer.MAX_VALUE));
        }
        for (int i = 0; i < COURSES; i++) {
            int course = i;
            for (int k = 0; k < LEGS; k++) {
                int leg = k;
                calls.add(w -> w.voided(course, leg, false));
            }
        }
        return calls;
    }

    private static List<Edge.Call> toldOfRunners() {
        List<Edge.Call> calls = new ArrayList<>();
        for (int i = 0; i < NUMBERS; i++) {
            int runner = i;
            calls.add(w -> w.rule(runner, -1));
            calls.add(w -> w.branches(runner, 0));
            calls.add(w -> w.start(runner, 0));
            calls.add(w -> w.finish(runner, 99999));
            calls.add(w -> w.time(runner));
        }
        return calls;
    }

    /** Start lists tell the clubs. */
    private static List<Edge.Call> drawn() {
        List<Edge.Call> calls = new ArrayList<>();
        for (int i = 0; i < COURSES; i++) {
            int course = i;
            calls.add(w -> w.draw(course, 1, 0, 1));
        }
        for (int i = 0; i < NUMBERS; i++) {
            int runner = i;
            calls.add(w -> w.startOf(runner));
        }
        return calls;
    }

    private static List<Edge.Call> deadSeconds() {
        List<Edge.Call> calls = new ArrayList<>();
        calls.add(w -> w.runner(0, 0));
        for (int i = 0; i < NUMBERS; i++) {
            int runner = i;
            calls.add(w -> w.start(runner, 0));
            for (int seconds : new int[] {0, 5, 10, 999, 99999}) {
                calls.add(w -> w.punch(runner, 0, seconds));
                calls.add(w -> w.punch(runner, 1, seconds));
            }
        }
        return calls;
    }

    /** Forks tell by their bits how many they are, and by the controls found, where all are excused, which they are. */
    private static List<Edge.Call> found(int first, int behind) {
        List<Edge.Call> calls = new ArrayList<>();
        for (int i = 0; i < COURSES; i++) {
            int course = i;
            calls.add(w -> w.runner(0, course));
        }
        for (int i = 0; i < NUMBERS; i++) {
            int control = i;
            calls.add(w -> w.stolen(control, 0));
        }
        for (int i = first; i < behind; i++) {
            int runner = i;
            for (int k = 1; k < LEGS; k++) {
                int bits = (1 << k) - 1;
                calls.add(w -> w.branches(runner, bits));
            }
            calls.add(w -> w.start(runner, 0));
            for (int k = 0; k < NUMBERS; k++) {
                int control = k;
                calls.add(w -> w.punch(runner, control, control));
            }
            calls.add(w -> w.finish(runner, 99));
            for (int k = 0; k < LEGS; k++) {
                int leg = k;
                calls.add(w -> w.split(runner, leg));
            }
        }
        return calls;
    }

    private static List<Edge.Call> relayAndNumbers() {
        List<Edge.Call> calls = new ArrayList<>();
        calls.add(w -> w.isFair());
        calls.add(w -> w.fairWays());
        calls.add(w -> w.score(0, 400, 1000));
        for (int i = 0; i < COURSES; i++) {
            int team = i;
            for (int k = 0; k < 4; k++) {
                int run = k;
                calls.add(w -> w.runs(team, run, 0));
            }
        }
        calls.add(w -> w.print());
        for (int i = 0; i <= CELLS; i++) {
            int cell = i;
            calls.add(w -> w.cell(cell, 0, 0, '.'));
            calls.add(w -> w.show(cell, 0, '.'));
        }
        calls.add(w -> w.fork(0, 0, 1));
        calls.add(w -> w.add(0, 0));
        calls.add(w -> w.control(0, 0, 0));
        calls.add(w -> w.course(0));
        calls.add(w -> w.runner(0, 0));
        calls.add(w -> w.team(0, 1));
        return calls;
    }
}
