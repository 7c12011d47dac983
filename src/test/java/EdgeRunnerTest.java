import java.math.BigInteger;
import java.util.ArrayList;
import java.util.List;

/** The boundary cases of promises 15 to 19 and of the paragraph on runners and start lists. */
public final class EdgeRunnerTest {
    private static final Check CHECK = new Check();
    /** Controls 0 to 3, course 0 with forks at places 1 and 3, course 1 without controls. */
    private static final Edge TWO = new Edge(CHECK, RunnerTest::wood);
    /** The same with 12 runners of club 3, number 11 on course 0, the others on course 1. */
    private static final Edge TWELVE = TWO.with(EdgeRunnerTest::twelve);

    public static void main(String[] args) {
        promise15();
        promise15Order();
        promise16();
        promise16NineForks();
        promise16Touched();
        promise17();
        promise17Touched();
        promise18Ranges();
        promise18Refused();
        promise18WithoutAFinish();
        promise18Clubs();
        promise18ManyLots();
        promise19();
        CHECK.end();
    }

    private static void twelve(ControlWood w) {
        for (int i = 0; i < 12; i++) {
            w.runner(3, i == 11 ? 0 : 1);
        }
    }

    private static void promise15() {
        TWO.due("15: the first, club 0", 0, w -> w.runner(0, 0));
        TWO.due("15: the last course, club 9", 0, w -> w.runner(9, 1));
        TWO.refusedOutside("15: club", Edge.ARGUMENT, 0, 9, (w, club) -> w.runner(club, 0));
        TWO.refusedOutside("15: course", Edge.INDEX, 0, 1, (w, course) -> w.runner(0, course));
        Edge eleven = TWO.with(w -> {
            for (int i = 0; i < 11; i++) {
                w.runner(3, 1);
            }
        });
        eleven.due("15: the twelfth", 11, w -> w.runner(9, 0));
        TWELVE.refused("15: a thirteenth", Edge.STATE, w -> w.runner(0, 0));
        Edge one = TWO.with(w -> w.runner(5, 0));
        one.due("15: branches 0 at first", 0, w -> w.branches(0, 3));
        one.due("15: no start at first", -1, w -> w.start(0, 0));
        one.refused("15: no start at first", Edge.NO_SUCH, w -> w.startOf(0));
        one.due("15: 'n' at first", 'n', w -> w.state(0));
        one.due("15: no fix at first", 1, w -> w.fix(0, 0, 0));
        one.due("15: no punch at first", 7L, w -> w.checksum());
        Edge refused = TWO.with(w -> Check.told(() -> w.runner(10, 0)));
        refused.due("15: a refused one takes no number", 0, w -> w.runner(0, 0));
        Edge six = new Edge(CHECK, ControlWood::new).with(w -> {
            for (int i = 0; i < 6; i++) {
                w.course(0);
            }
        });
        six.due("15: the last course of six", 0, w -> w.runner(0, 5));
        six.refusedOutside("15: course of six", Edge.INDEX, 0, 5, (w, course) -> w.runner(0, course));
    }

    private static void promise15Order() {
        TWO.refused("15: club ahead of course", Edge.ARGUMENT, w -> w.runner(10, 2));
        TWO.refused("15: club ahead of course", Edge.ARGUMENT, w -> w.runner(-1, -1));
        TWELVE.refused("15: club ahead of the twelve", Edge.ARGUMENT, w -> w.runner(10, 0));
        TWELVE.refused("15: course ahead of the twelve", Edge.INDEX, w -> w.runner(0, 2));
        TWELVE.refused("15: course ahead of the twelve", Edge.INDEX, w -> w.runner(0, -1));
        TWELVE.refused("15: club ahead of all", Edge.ARGUMENT, w -> w.runner(-1, 2));
    }

    private static void promise16() {
        TWELVE.due("16: no branches", 0, w -> w.branches(11, 0));
        TWELVE.due("16: all branches", 0, w -> w.branches(11, 3));
        TWELVE.with(w -> w.branches(11, 3)).due("16: those before", 3, w -> w.branches(11, 0));
        TWELVE.with(w -> w.branches(11, 1)).due("16: those before", 1, w -> w.branches(11, 2));
        TWELVE.refusedOutside("16: runner", Edge.INDEX, 0, 11, (w, runner) -> w.branches(runner, 0));
        TWELVE.refusedOutside("16: branches of two forks", Edge.ARGUMENT, 0, 3, (w, bits) -> w.branches(11, bits));
        TWELVE.due("16: none without forks", 0, w -> w.branches(0, 0));
        TWELVE.refusedOutside("16: branches without forks", Edge.ARGUMENT, 0, 0, (w, bits) -> w.branches(0, bits));
        TWELVE.refused("16: the third bit alone", Edge.ARGUMENT, w -> w.branches(11, 4));
        TWELVE.refused("16: no such runner ahead of no such fork", Edge.INDEX, w -> w.branches(12, 4));
        TWELVE.refused("16: no such runner ahead of no such fork", Edge.INDEX, w -> w.branches(-1, -1));
        TWO.refused("16: there is none yet", Edge.INDEX, w -> w.branches(0, 0));
    }

    private static void promise16NineForks() {
        Edge nine = TWO.with(w -> {
            w.course(0);
            for (int place = 0; place < 9; place++) {
                w.add(2, 0);
                w.fork(2, place, 1);
            }
            w.runner(0, 2);
        });
        nine.due("16: all of nine forks", 0, w -> w.branches(0, 511));
        nine.refusedOutside("16: branches of nine forks", Edge.ARGUMENT, 0, 511, (w, bits) -> w.branches(0, bits));
        for (int i = 0; i < 9; i++) {
            int place = i;
            Edge forked = nine.with(w -> {
                w.branches(0, 1 << place);
                w.start(0, 0);
                for (int k = 0; k < 9; k++) {
                    w.punch(0, k == place ? 1 : 0, k);
                }
                w.finish(0, 9);
            });
            forked.due("16: the bit of place " + i, 'o', w -> w.state(0));
        }
        Edge gaps = TWO.with(w -> w.runner(0, 0)).with(w -> w.branches(0, 2)).with(w -> w.start(0, 0));
        Edge run = gaps.with(w -> {
            w.punch(0, 0, 1);
            w.punch(0, 1, 2);
            w.punch(0, 2, 3);
            w.punch(0, 1, 4);
            w.finish(0, 5);
        });
        run.due("16: the second bit is that of place 3, the second fork", 'o', w -> w.state(0));
    }

    private static void promise16Touched() {
        Edge started = TWO.with(w -> w.runner(0, 0)).with(w -> w.start(0, 5));
        started.due("16: with a start alone", 0, w -> w.branches(0, 3));
        Edge punched = started.with(w -> w.branches(0, 1)).with(w -> w.punch(0, 0, 5));
        punched.refused("16: the runner has a punch", Edge.UNSUPPORTED, w -> w.branches(0, 0));
        punched.refused("16: no such fork ahead of a punch", Edge.ARGUMENT, w -> w.branches(0, 4));
        Edge finished = started.with(w -> w.branches(0, 1)).with(w -> w.finish(0, 5));
        finished.refused("16: the runner has a finish", Edge.UNSUPPORTED, w -> w.branches(0, 0));
        finished.refused("16: no such fork ahead of a finish", Edge.ARGUMENT, w -> w.branches(0, -1));
        Edge lost = started.with(w -> w.dead(0, 0, 9)).with(w -> w.punch(0, 0, 5));
        lost.due("16: a punch that is not kept is none", 0, w -> w.branches(0, 3));
        TWELVE.with(w -> w.fix(11, 0, 0)).due("16: a fix is no punch", 0, w -> w.branches(11, 3));
    }

    private static void promise17() {
        TWELVE.due("17: none before", -1, w -> w.start(11, 0));
        TWELVE.due("17: the last second", -1, w -> w.start(11, 99999));
        TWELVE.with(w -> w.start(11, 0)).due("17: 0 before", 0, w -> w.start(11, 99999));
        TWELVE.with(w -> w.start(11, 99999)).due("17: 99999 before", 99999, w -> w.start(11, 0));
        TWELVE.refusedOutside("17: runner", Edge.INDEX, 0, 11, (w, runner) -> w.start(runner, 0));
        TWELVE.refusedOutside("17: seconds", Edge.ARGUMENT, 0, 99999, (w, seconds) -> w.start(11, seconds));
        Edge started = TWELVE.with(w -> w.start(11, 7));
        started.refusedOutside("17: seconds", Edge.ARGUMENT, 0, 99999, (w, seconds) -> w.start(11, seconds));
        TWELVE.refused("17: no such runner ahead of the seconds", Edge.INDEX, w -> w.start(12, -1));
        TWELVE.refused("17: no such runner ahead of the seconds", Edge.INDEX, w -> w.start(-1, 100000));
        TWO.refused("17: there is none yet", Edge.INDEX, w -> w.start(0, 0));
        Edge ruled = started.with(w -> w.rule(11, 3)).with(w -> w.start(11, 8));
        ruled.due("17: a start counts as another until it is ruled anew", 3, w -> w.rule(11, -1));
        ruled.with(w -> w.rule(11, -1)).due("17: the one told counts", 8, w -> w.rule(11, 0));
    }

    private static void promise17Touched() {
        Edge started = TWO.with(w -> w.runner(0, 0)).with(w -> w.start(0, 5));
        Edge punched = started.with(w -> w.punch(0, 0, 5));
        punched.refused("17: the runner has a punch", Edge.UNSUPPORTED, w -> w.start(0, 5));
        punched.refused("17: the seconds ahead of a punch", Edge.ARGUMENT, w -> w.start(0, 100000));
        Edge finished = started.with(w -> w.finish(0, 5));
        finished.refused("17: the runner has a finish", Edge.UNSUPPORTED, w -> w.start(0, 5));
        finished.refused("17: the seconds ahead of a finish", Edge.ARGUMENT, w -> w.start(0, -1));
        Edge lost = started.with(w -> w.dead(0, 0, 9)).with(w -> w.punch(0, 0, 5));
        lost.due("17: a punch that is not kept is none", 5, w -> w.start(0, 6));
    }

    private static void promise18Ranges() {
        Edge one = TWO.with(w -> w.runner(0, 0));
        TWO.due("18: nobody", 0, w -> w.draw(0, 0, 0, 0));
        one.due("18: the least numbers", 1, w -> w.draw(0, 0, 0, 0));
        one.with(w -> w.draw(0, 0, 0, 0)).due("18: the least first start", 0, w -> w.startOf(0));
        one.due("18: the most numbers", 1, w -> w.draw(0, 99999, 9999, 999));
        one.with(w -> w.draw(0, 99999, 9999, 999)).due("18: the most first start", 9999, w -> w.startOf(0));
        one.refusedOutside("18: course", Edge.INDEX, 0, 1, (w, course) -> w.draw(course, 0, 0, 0));
        one.refusedOutside("18: seed", Edge.ARGUMENT, 0, 99999, (w, seed) -> w.draw(0, seed, 0, 0));
        one.refusedOutside("18: first", Edge.ARGUMENT, 0, 9999, (w, first) -> w.draw(0, 0, first, 0));
        one.refusedOutside("18: interval", Edge.ARGUMENT, 0, 999, (w, interval) -> w.draw(0, 0, 0, interval));
        one.refused("18: no such course ahead of the seed", Edge.INDEX, w -> w.draw(2, -1, 0, 0));
        one.refused("18: no such course ahead of the first start", Edge.INDEX, w -> w.draw(-1, 0, 10000, 0));
        one.refused("18: no such course ahead of the interval", Edge.INDEX, w -> w.draw(2, 0, 0, 1000));
        new Edge(CHECK, ControlWood::new).refused("18: no course yet", Edge.INDEX, w -> w.draw(0, 0, 0, 0));
    }

    private static void promise18Refused() {
        Edge out = TWO.with(w -> {
            w.runner(0, 0);
            w.runner(0, 0);
            w.runner(0, 1);
            w.start(1, 5);
            w.punch(1, 3, 5);
        });
        out.refused("18: a punch without a finish", Edge.UNSUPPORTED, w -> w.draw(0, 0, 0, 0));
        out.refused("18: the seed ahead of it", Edge.ARGUMENT, w -> w.draw(0, 100000, 0, 0));
        out.refused("18: the first start ahead of it", Edge.ARGUMENT, w -> w.draw(0, 0, -1, 0));
        out.refused("18: the interval ahead of it", Edge.ARGUMENT, w -> w.draw(0, 0, 0, 1000));
        out.due("18: on the other course nobody has", 1, w -> w.draw(1, 0, 0, 0));
        Edge first = TWO.with(w -> w.runner(0, 0)).with(w -> w.start(0, 5)).with(w -> w.punch(0, 3, 5));
        first.refused("18: the first runner has a punch", Edge.UNSUPPORTED, w -> w.draw(0, 0, 0, 0));
        Edge last = TWELVE.with(w -> w.start(11, 5)).with(w -> w.punch(11, 3, 5));
        last.refused("18: the last runner has a punch", Edge.UNSUPPORTED, w -> w.draw(0, 0, 0, 0));
        last.due("18: on the other course nobody has", 11, w -> w.draw(1, 0, 0, 0));
        out.with(w -> w.finish(1, 5)).due("18: a punch with a finish", 1, w -> w.draw(0, 0, 0, 0));
        Edge lost = TWO.with(w -> {
            w.runner(0, 0);
            w.start(0, 5);
            w.dead(3, 5, 5);
            w.punch(0, 3, 5);
        });
        lost.due("18: a punch that is not kept is none", 1, w -> w.draw(0, 0, 0, 0));
    }

    private static void promise18WithoutAFinish() {
        Edge three = TWO.with(w -> {
            w.runner(0, 0);
            w.runner(1, 0);
            w.runner(2, 0);
            w.start(0, 77);
            w.start(1, 88);
            w.finish(1, 99);
        });
        Edge drawn = three.with(w -> w.draw(0, 4, 9, 0));
        three.due("18: those without a finish", 2, w -> w.draw(0, 4, 9, 0));
        drawn.due("18: one who had a start", 9, w -> w.startOf(0));
        drawn.due("18: one with a finish stays", 88, w -> w.startOf(1));
        drawn.due("18: one who had none", 9, w -> w.startOf(2));
        Edge all = TWO.with(w -> {
            w.runner(0, 0);
            w.start(0, 77);
            w.finish(0, 99);
        });
        all.due("18: all have a finish", 0, w -> w.draw(0, 4, 9, 0));
        all.with(w -> w.draw(0, 4, 9, 0)).due("18: the start stays", 77, w -> w.startOf(0));
        drawn.due("18: a drawn start was told", 9, w -> w.start(0, 1));
        drawn.due("18: a drawn start counts", 9, w -> w.rule(2, -1));
        drawn.refused("18: no punch ahead of a drawn start", Edge.ARGUMENT, w -> w.punch(2, 0, 8));
    }

    /** With seed 1 the lots of three are 2, 0, 1. */
    private static void promise18Clubs() {
        starts("18: one club, by lots alone", new int[] {7, 7, 7}, 20, 30, 10);
        starts("18: another club than the one ahead", new int[] {7, 0, 7}, 30, 20, 10);
        starts("18: of several such the first by lots", new int[] {1, 2, 3}, 20, 30, 10);
        starts("18: none such at the end", new int[] {9, 9, 0}, 20, 30, 10);
    }

    private static void starts(String name, int[] clubs, int... due) {
        Edge drawn = TWO.with(w -> {
            for (int club : clubs) {
                w.runner(club, 0);
            }
            w.draw(0, 1, 10, 10);
        });
        for (int i = 0; i < due.length; i++) {
            int runner = i;
            drawn.due(name + ", runner " + i, due[i], w -> w.startOf(runner));
        }
    }

    /** As many as there can be, and seeds that soon pass the ints. */
    private static void promise18ManyLots() {
        for (int seed : new int[] {0, 1, 2, 32767, 65536, 99999}) {
            for (int clubs = 1; clubs <= 4; clubs++) {
                int most = clubs;
                Edge drawn = TWO.with(w -> {
                    for (int i = 0; i < 12; i++) {
                        w.runner(i % most, 0);
                    }
                    w.draw(0, seed, 9999, 999);
                });
                List<Integer> list = list(seed, most);
                for (int place = 0; place < 12; place++) {
                    int runner = list.get(place);
                    int start = 9999 + 999 * place;
                    drawn.due("18: seed " + seed + ", place " + place, start, w -> w.startOf(runner));
                }
            }
        }
    }

    private static List<Integer> list(int seed, int clubs) {
        List<Integer> left = new ArrayList<>();
        for (int i = 0; i < 12; i++) {
            left.add(i);
        }
        List<Integer> lots = new ArrayList<>();
        BigInteger z = BigInteger.valueOf(seed);
        while (!left.isEmpty()) {
            z = z.multiply(BigInteger.valueOf(1103515245)).add(BigInteger.valueOf(12345)).mod(BigInteger.ONE.shiftLeft(31));
            lots.add(left.remove(z.shiftRight(16).mod(BigInteger.valueOf(left.size())).intValue()));
        }
        List<Integer> list = new ArrayList<>();
        int ahead = -1;
        while (!lots.isEmpty()) {
            int at = 0;
            while (at < lots.size() && lots.get(at) % clubs == ahead) {
                at++;
            }
            int next = lots.remove(at == lots.size() ? 0 : at);
            ahead = next % clubs;
            list.add(next);
        }
        return list;
    }

    private static void promise19() {
        TWELVE.refused("19: there is none", Edge.NO_SUCH, w -> w.startOf(11));
        TWELVE.refusedOutside("19: runner", Edge.INDEX, 0, 11, (w, runner) -> w.startOf(runner));
        TWO.refused("19: there is nobody yet", Edge.INDEX, w -> w.startOf(0));
        TWELVE.with(w -> w.start(11, 0)).due("19: told as 0", 0, w -> w.startOf(11));
        TWELVE.with(w -> w.start(11, 99999)).due("19: told as 99999", 99999, w -> w.startOf(11));
        TWELVE.with(w -> w.start(11, 9)).refused("19: of another there is none", Edge.NO_SUCH, w -> w.startOf(10));
        Edge ruled = TWELVE.with(w -> w.start(11, 9)).with(w -> w.rule(11, 0));
        ruled.due("19: as told, not as ruled", 9, w -> w.startOf(11));
        Edge refused = TWELVE.with(w -> Check.told(() -> w.start(11, 100000)));
        refused.refused("19: a refused one is none", Edge.NO_SUCH, w -> w.startOf(11));
        Edge anew = TWELVE.with(w -> w.start(11, 500)).with(w -> w.draw(0, 0, 3, 0));
        anew.due("19: as drawn last", 3, w -> w.startOf(11));
    }
}
