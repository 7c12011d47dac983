import java.util.NoSuchElementException;

/** Promises 15 to 25: runners, starts, punches and rulings. */
public final class RunnerTest {
    private static final Class<IndexOutOfBoundsException> INDEX = IndexOutOfBoundsException.class;
    private static final Class<IllegalArgumentException> ARGUMENT = IllegalArgumentException.class;
    private static final Class<NoSuchElementException> NO_SUCH = NoSuchElementException.class;
    private static final Class<IllegalStateException> STATE = IllegalStateException.class;
    private static final Class<UnsupportedOperationException> UNSUPPORTED = UnsupportedOperationException.class;
    private static final Check CHECK = new Check();

    public static void main(String[] args) {
        runner();
        branches();
        start();
        drawRefuses();
        drawByHand();
        drawPartsClubs();
        drawTakesThoseOut();
        punch();
        punchLimit();
        finish();
        dead();
        stolen();
        voided();
        rule();
        CHECK.end();
    }

    /** Controls 0 to 3, course 0 with all of them and forks at places 1 and 3, course 1 without controls. */
    static ControlWood wood() {
        ControlWood w = new ControlWood();
        w.control(4, 0, 10);
        w.control(24, 1, 20);
        w.control(20, 2, 30);
        w.control(12, 3, 40);
        w.course(0);
        for (int i = 0; i < 4; i++) {
            w.add(0, i);
        }
        w.fork(0, 1, 3);
        w.fork(0, 3, 1);
        w.course(10);
        return w;
    }

    private static void runner() {
        ControlWood w = wood();
        CHECK.due("first", 0, () -> w.runner(0, 0));
        CHECK.due("second", 1, () -> w.runner(9, 1));
        CHECK.fails(ARGUMENT, "club 10, course 2", () -> w.runner(10, 2));
        CHECK.fails(ARGUMENT, "club -1", () -> w.runner(-1, 0));
        CHECK.fails(INDEX, "course 2", () -> w.runner(0, 2));
        CHECK.fails(INDEX, "course -1", () -> w.runner(0, -1));
        CHECK.due("without a start", 'n', () -> w.state(1));
        CHECK.due("branches at first", 0, () -> w.branches(0, 3));
        for (int i = 2; i < 12; i++) {
            int number = i;
            CHECK.due("runner " + i, number, () -> w.runner(3, 1));
        }
        CHECK.fails(STATE, "a thirteenth", () -> w.runner(0, 0));
        CHECK.fails(ARGUMENT, "a thirteenth of club 10", () -> w.runner(10, 0));
        CHECK.fails(INDEX, "a thirteenth on course 2", () -> w.runner(0, 2));
    }

    private static void branches() {
        ControlWood w = wood();
        w.runner(0, 0);
        w.runner(0, 1);
        CHECK.due("at first", 0, () -> w.branches(0, 3));
        CHECK.due("before", 3, () -> w.branches(0, 2));
        CHECK.fails(INDEX, "runner 2", () -> w.branches(2, 0));
        CHECK.fails(INDEX, "runner -1", () -> w.branches(-1, 9));
        CHECK.fails(ARGUMENT, "a third fork", () -> w.branches(0, 4));
        CHECK.fails(ARGUMENT, "-1", () -> w.branches(0, -1));
        CHECK.fails(ARGUMENT, "the highest bit", () -> w.branches(0, Integer.MIN_VALUE));
        CHECK.fails(ARGUMENT, "no fork", () -> w.branches(1, 1));
        CHECK.due("none of none", 0, () -> w.branches(1, 0));
        w.start(0, 0);
        CHECK.due("with a start", 2, () -> w.branches(0, 1));
        w.dead(0, 5, 5);
        w.punch(0, 0, 5);
        CHECK.due("a lost punch is none", 1, () -> w.branches(0, 2));
        w.punch(0, 0, 6);
        CHECK.fails(UNSUPPORTED, "with a punch", () -> w.branches(0, 0));
        CHECK.fails(ARGUMENT, "a third fork, with a punch", () -> w.branches(0, 4));
        w.start(1, 0);
        w.finish(1, 0);
        CHECK.fails(UNSUPPORTED, "with a finish", () -> w.branches(1, 0));
    }

    private static void start() {
        ControlWood w = wood();
        w.runner(0, 0);
        w.runner(0, 1);
        CHECK.fails(NO_SUCH, "none told", () -> w.startOf(0));
        CHECK.due("none before", -1, () -> w.start(0, 99999));
        CHECK.due("before", 99999, () -> w.start(0, 0));
        CHECK.due("told", 0, () -> w.startOf(0));
        CHECK.due("before", 0, () -> w.start(0, 7));
        CHECK.due("told", 7, () -> w.startOf(0));
        CHECK.fails(INDEX, "startOf(2)", () -> w.startOf(2));
        CHECK.fails(INDEX, "startOf(-1)", () -> w.startOf(-1));
        CHECK.fails(INDEX, "runner 2", () -> w.start(2, -1));
        CHECK.fails(INDEX, "runner -1", () -> w.start(-1, 0));
        CHECK.fails(ARGUMENT, "-1", () -> w.start(0, -1));
        CHECK.fails(ARGUMENT, "100000", () -> w.start(0, 100000));
        w.rule(0, 50);
        CHECK.due("the told one, not the ruled one", 7, () -> w.startOf(0));
        CHECK.due("the told one", 7, () -> w.start(0, 8));
        CHECK.due("a ruling stays", 50, () -> w.rule(0, 50));
        w.punch(0, 3, 8);
        CHECK.fails(UNSUPPORTED, "with a punch", () -> w.start(0, 0));
        CHECK.fails(ARGUMENT, "-1 with a punch", () -> w.start(0, -1));
        w.start(1, 5);
        w.finish(1, 5);
        CHECK.fails(UNSUPPORTED, "with a finish", () -> w.start(1, 0));
    }

    private static void drawRefuses() {
        ControlWood w = wood();
        w.runner(0, 0);
        w.start(0, 5);
        CHECK.fails(INDEX, "course 2", () -> w.draw(2, -1, 0, 0));
        CHECK.fails(INDEX, "course -1", () -> w.draw(-1, 0, 0, 0));
        int[][] wrong = {{-1, 0, 0}, {100000, 0, 0}, {0, -1, 0}, {0, 10000, 0}, {0, 0, -1}, {0, 0, 1000}};
        for (int[] one : wrong) {
            CHECK.fails(ARGUMENT, "draw", () -> w.draw(0, one[0], one[1], one[2]));
        }
        CHECK.due("nobody", 0, () -> w.draw(1, 99999, 9999, 999));
        CHECK.due("one", 1, () -> w.draw(0, 99999, 9999, 999));
        CHECK.due("the first start", 9999, () -> w.startOf(0));
        w.punch(0, 0, 9999);
        CHECK.fails(UNSUPPORTED, "a punch without a finish", () -> w.draw(0, 0, 0, 0));
        CHECK.fails(ARGUMENT, "so, and seed -1", () -> w.draw(0, -1, 0, 0));
        CHECK.due("the other course", 0, () -> w.draw(1, 0, 0, 0));
        w.finish(0, 10000);
        CHECK.due("all have finished", 0, () -> w.draw(0, 0, 0, 0));
        CHECK.due("the start stays", 9999, () -> w.startOf(0));
    }

    /** With seed 1 the first z is 1103527590, 16838 in lots; of a single club all come as the lots do. */
    private static void drawByHand() {
        ControlWood w = wood();
        for (int i = 0; i < 3; i++) {
            w.runner(4, 0);
        }
        // Lots: 16838 % 3 = 2, then z = 377401575, 5758 % 2 = 0, and the last one.
        CHECK.due("three", 3, () -> w.draw(0, 1, 10, 7));
        CHECK.due("second", 17, () -> w.startOf(0));
        CHECK.due("third", 24, () -> w.startOf(1));
        CHECK.due("first", 10, () -> w.startOf(2));
    }

    private static void drawPartsClubs() {
        for (int seed = 0; seed < 60; seed++) {
            ControlWood w = wood();
            int[] clubs = new int[12];
            int count = 0;
            for (int i = 0; i < 12; i++) {
                clubs[i] = (i * 7 + seed) % (1 + seed % 4);
                int course = i % 5 == 0 ? 1 : 0;
                w.runner(clubs[i], course);
                count += 1 - course;
            }
            int due = count;
            int itsSeed = seed * 1667;
            CHECK.due("draw with " + itsSeed, due, () -> w.draw(0, itsSeed, 100, 60));
            java.util.List<Integer> list = listOf(clubs, itsSeed);
            for (int place = 0; place < list.size(); place++) {
                int at = 100 + 60 * place;
                int runner = list.get(place);
                CHECK.due("start of " + runner + " with " + itsSeed, at, () -> w.startOf(runner));
            }
            CHECK.fails(NO_SUCH, "the other course", () -> w.startOf(5));
        }
    }

    private static java.util.List<Integer> listOf(int[] clubs, int seed) {
        java.util.List<Integer> left = new java.util.ArrayList<>();
        for (int i = 0; i < clubs.length; i++) {
            if (i % 5 != 0) {
                left.add(i);
            }
        }
        java.util.List<Integer> lots = new java.util.ArrayList<>();
        long z = seed;
        while (!left.isEmpty()) {
            z = (z * 1103515245L + 12345L) & 0x7fffffffL;
            lots.add(left.remove((int) ((z >> 16) % left.size())));
        }
        java.util.List<Integer> list = new java.util.ArrayList<>();
        while (!lots.isEmpty()) {
            int pick = 0;
            for (int i = lots.size() - 1; i >= 0; i--) {
                if (list.isEmpty() || clubs[lots.get(i)] != clubs[list.get(list.size() - 1)]) {
                    pick = i;
                }
            }
            list.add(lots.remove(pick));
        }
        return list;
    }

    private static void drawTakesThoseOut() {
        ControlWood w = wood();
        w.runner(0, 0);
        w.runner(1, 0);
        w.runner(2, 0);
        w.start(1, 5);
        w.finish(1, 900);
        w.start(2, 777);
        w.rule(2, 778);
        CHECK.due("two", 2, () -> w.draw(0, 5, 0, 0));
        CHECK.due("has finished", 5, () -> w.startOf(1));
        CHECK.due("drawn anew", 0, () -> w.startOf(2));
        CHECK.due("a ruling stays", 778, () -> w.rule(2, -1));
        CHECK.due("the drawn one counts", 0, () -> w.rule(2, -1));
    }

    private static void punch() {
        ControlWood w = wood();
        w.runner(0, 0);
        CHECK.fails(UNSUPPORTED, "no start", () -> w.punch(0, 0, 5));
        CHECK.fails(UNSUPPORTED, "no start, seconds 100000", () -> w.punch(0, 0, 100000));
        w.start(0, 100);
        CHECK.fails(INDEX, "runner 1", () -> w.punch(1, 0, 100));
        CHECK.fails(INDEX, "runner -1", () -> w.punch(-1, 0, 100));
        CHECK.fails(INDEX, "control 4", () -> w.punch(0, 4, 100));
        CHECK.fails(INDEX, "control -1", () -> w.punch(0, -1, 100));
        CHECK.fails(ARGUMENT, "ahead of the start", () -> w.punch(0, 0, 99));
        w.rule(0, 50);
        CHECK.fails(ARGUMENT, "ahead of the told start", () -> w.punch(0, 0, 99));
        w.rule(0, 150);
        CHECK.due("at the told start", 1, () -> w.punch(0, 0, 100));
        CHECK.due("any control", 2, () -> w.punch(0, 3, 120));
        CHECK.due("at the same second", 3, () -> w.punch(0, 3, 120));
        CHECK.fails(ARGUMENT, "ahead of the last", () -> w.punch(0, 0, 119));
        CHECK.fails(ARGUMENT, "100000", () -> w.punch(0, 0, 100000));
        w.dead(2, 130, 140);
        CHECK.due("not kept", 3, () -> w.punch(0, 2, 140));
        CHECK.due("the last kept counts", 4, () -> w.punch(0, 2, 129));
        CHECK.fails(ARGUMENT, "dead, and too early", () -> w.punch(0, 2, 128));
        long sum = 7;
        for (int number : new int[] {0, 100, 3, 120, 3, 120, 2, 129}) {
            sum = sum * 31 + number;
        }
        long due = sum;
        CHECK.due("checksum", due, () -> w.checksum());
        CHECK.due("the last second", 5, () -> w.punch(0, 2, 99999));
        w.finish(0, 99999);
        CHECK.fails(UNSUPPORTED, "has finished", () -> w.punch(0, 0, 99999));
        CHECK.fails(UNSUPPORTED, "has finished, too early", () -> w.punch(0, 0, 1));
        CHECK.fails(INDEX, "has finished, control 4", () -> w.punch(0, 4, 1));
    }

    private static void punchLimit() {
        ControlWood w = wood();
        w.runner(0, 0);
        w.start(0, 0);
        w.dead(1, 0, 1000);
        for (int i = 1; i <= 20; i++) {
            int count = i;
            CHECK.due("not kept", count - 1, () -> w.punch(0, 1, count));
            CHECK.due("kept", count, () -> w.punch(0, 0, count));
        }
        CHECK.fails(STATE, "20 are kept", () -> w.punch(0, 0, 21));
        CHECK.fails(STATE, "20 are kept, and it is dead", () -> w.punch(0, 1, 21));
        CHECK.fails(ARGUMENT, "20 are kept, too early", () -> w.punch(0, 0, 19));
    }

    private static void finish() {
        ControlWood w = wood();
        w.runner(0, 1);
        w.runner(0, 1);
        CHECK.fails(INDEX, "runner 2", () -> w.finish(2, 0));
        CHECK.fails(INDEX, "runner -1", () -> w.finish(-1, 0));
        CHECK.fails(UNSUPPORTED, "no start", () -> w.finish(0, 100000));
        w.start(0, 100);
        w.rule(0, 30);
        CHECK.fails(ARGUMENT, "ahead of the start", () -> w.finish(0, 99));
        w.punch(0, 1, 200);
        w.dead(2, 0, 1000);
        w.punch(0, 2, 300);
        CHECK.fails(ARGUMENT, "ahead of the last punch", () -> w.finish(0, 199));
        CHECK.fails(ARGUMENT, "100000", () -> w.finish(0, 100000));
        CHECK.due("since the told start", 100, () -> w.finish(0, 200));
        CHECK.fails(UNSUPPORTED, "once", () -> w.finish(0, 300));
        CHECK.fails(UNSUPPORTED, "once, too early", () -> w.finish(0, 1));
        w.start(1, 99999);
        CHECK.due("at once", 0, () -> w.finish(1, 99999));
    }

    private static void dead() {
        ControlWood w = wood();
        w.runner(0, 0);
        w.runner(0, 1);
        w.start(0, 0);
        w.start(1, 0);
        int[] seconds = {10, 20, 30, 40};
        for (int at : seconds) {
            w.punch(0, 0, at);
            w.punch(0, 1, at);
        }
        w.punch(1, 0, 25);
        CHECK.due("20 to 30 of both", 3, () -> w.dead(0, 20, 30));
        CHECK.due("they stay", 9, () -> w.punch(0, 1, 40));
        CHECK.due("one second", 1, () -> w.dead(0, 40, 40));
        CHECK.due("in place of it", 2, () -> w.punch(1, 0, 30));
        CHECK.due("not kept", 2, () -> w.punch(1, 0, 40));
        CHECK.due("of another", 3, () -> w.punch(1, 1, 40));
        CHECK.due("kept again", 4, () -> w.punch(1, 0, 41));
        CHECK.due("none there", 0, () -> w.dead(2, 0, Integer.MAX_VALUE));
        CHECK.due("all", 7, () -> w.dead(0, 0, Integer.MAX_VALUE));
        CHECK.fails(INDEX, "control 4", () -> w.dead(4, -1, 0));
        CHECK.fails(INDEX, "control -1", () -> w.dead(-1, 0, 0));
        CHECK.fails(ARGUMENT, "from -1", () -> w.dead(0, -1, 5));
        CHECK.fails(ARGUMENT, "to -1", () -> w.dead(0, 0, -1));
        CHECK.fails(ARGUMENT, "less", () -> w.dead(0, 6, 5));
        CHECK.due("still dead", 4, () -> w.punch(1, 0, 999));
        CHECK.due("at 0", 0, () -> w.dead(3, 0, 0));
        w.runner(0, 1);
        w.start(2, 0);
        CHECK.due("not kept at 0", 0, () -> w.punch(2, 3, 0));
        CHECK.due("kept at 1", 1, () -> w.punch(2, 3, 1));
    }

    private static void stolen() {
        ControlWood w = wood();
        CHECK.due("never", -1, () -> w.stolen(0, 0));
        CHECK.due("before", 0, () -> w.stolen(0, Integer.MAX_VALUE));
        CHECK.due("before", Integer.MAX_VALUE, () -> w.stolen(0, -1));
        CHECK.due("never", -1, () -> w.stolen(0, 5));
        CHECK.due("another", -1, () -> w.stolen(1, 5));
        CHECK.fails(INDEX, "control 4", () -> w.stolen(4, -2));
        CHECK.fails(INDEX, "control -1", () -> w.stolen(-1, 0));
        CHECK.fails(ARGUMENT, "-2", () -> w.stolen(0, -2));
        CHECK.due("as before", 5, () -> w.stolen(0, -1));
    }

    private static void voided() {
        ControlWood w = wood();
        CHECK.due("at first", false, () -> w.voided(0, 4, true));
        CHECK.due("it was", true, () -> w.voided(0, 4, true));
        CHECK.due("it was", true, () -> w.voided(0, 4, false));
        CHECK.due("it was not", false, () -> w.voided(0, 4, false));
        CHECK.due("the only leg", false, () -> w.voided(1, 0, true));
        CHECK.due("of another course", false, () -> w.voided(0, 0, true));
        CHECK.fails(INDEX, "course 2", () -> w.voided(2, 0, true));
        CHECK.fails(INDEX, "course -1", () -> w.voided(-1, 0, true));
        CHECK.fails(INDEX, "leg 5", () -> w.voided(0, 5, true));
        CHECK.fails(INDEX, "leg 1", () -> w.voided(1, 1, true));
        CHECK.fails(INDEX, "leg -1", () -> w.voided(0, -1, true));
    }

    private static void rule() {
        ControlWood w = wood();
        w.runner(0, 1);
        CHECK.fails(INDEX, "runner 1", () -> w.rule(1, -2));
        CHECK.fails(INDEX, "runner -1", () -> w.rule(-1, 0));
        CHECK.fails(UNSUPPORTED, "no start", () -> w.rule(0, -2));
        w.start(0, 60);
        CHECK.fails(ARGUMENT, "-2", () -> w.rule(0, -2));
        CHECK.fails(ARGUMENT, "100000", () -> w.rule(0, 100000));
        CHECK.due("the told one", 60, () -> w.rule(0, 0));
        CHECK.due("the ruled one", 0, () -> w.rule(0, 99999));
        CHECK.due("the ruled one", 99999, () -> w.rule(0, -1));
        CHECK.due("the told one again", 60, () -> w.rule(0, 40));
        w.finish(0, 160);
        CHECK.due("by the ruling", 120, () -> w.time(0));
        w.rule(0, 200);
        CHECK.due("below 0", -40, () -> w.time(0));
        w.rule(0, -1);
        CHECK.due("as told", 100, () -> w.time(0));
    }
}
