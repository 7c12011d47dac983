import java.util.NoSuchElementException;

/** Promises 1 to 7: a new object, land and map. */
public final class LandTest {
    private static final Class<IndexOutOfBoundsException> INDEX = IndexOutOfBoundsException.class;
    private static final Class<IllegalArgumentException> ARGUMENT = IllegalArgumentException.class;
    private static final Class<NoSuchElementException> NO_SUCH = NoSuchElementException.class;
    private static final Check CHECK = new Check();

    public static void main(String[] args) {
        newObject();
        land();
        landForgets();
        cell();
        print();
        show();
        cost();
        costBesideWater();
        misled();
        misledTies();
        CHECK.end();
    }

    private static void newObject() {
        ControlWood w = new ControlWood();
        CHECK.due("corner to corner", 80, () -> w.cost(0, 24, false));
        CHECK.due("corner to corner on the map", 80, () -> w.cost(0, 24, true));
        CHECK.due("a row further down", 50, () -> w.cost(4, 5, true));
        CHECK.fails(INDEX, "cell 25", () -> w.cost(0, 25, false));
        CHECK.fails(INDEX, "control 0", () -> w.areNear(0, 0));
        CHECK.fails(INDEX, "course 0", () -> w.isLawful(0));
        CHECK.fails(INDEX, "runner 0", () -> w.state(0));
        CHECK.fails(INDEX, "team 0", () -> w.runs(0, 0, 0));
        CHECK.due("checksum", 7L, () -> w.checksum());
        CHECK.due("isFair", true, () -> w.isFair());
        CHECK.due("fairWays", 1, () -> w.fairWays());
        CHECK.due("isSound", true, () -> w.isSound());
        CHECK.due("print", 0, () -> w.print());
        CHECK.due("score", 0, () -> w.score(0, 9999, 1000));
    }

    private static void land() {
        ControlWood w = new ControlWood();
        CHECK.due("land(3, 3)", 9, () -> w.land(3, 3));
        CHECK.due("corner to corner", 40, () -> w.cost(0, 8, false));
        CHECK.due("land(12, 3)", 36, () -> w.land(12, 3));
        CHECK.due("along a row", 110, () -> w.cost(0, 11, false));
        CHECK.due("row by row", 20, () -> w.cost(0, 24, false));
        CHECK.due("land(3, 12)", 36, () -> w.land(3, 12));
        CHECK.due("row by row", 110, () -> w.cost(0, 33, false));
        CHECK.due("land(12, 12)", 144, () -> w.land(12, 12));
        CHECK.due("corner to corner", 220, () -> w.cost(143, 0, true));
        w.cell(5, 3, 2, 'x');
        int[][] wrong = {{2, 5}, {13, 5}, {5, 2}, {5, 13}, {0, 0}, {-3, 4}, {Integer.MIN_VALUE, 3}, {3, Integer.MAX_VALUE}};
        for (int[] one : wrong) {
            CHECK.fails(ARGUMENT, "land(" + one[0] + ", " + one[1] + ")", () -> w.land(one[0], one[1]));
        }
    }

    private static ControlWood landedAnew() {
        ControlWood w = new ControlWood();
        w.cell(3, 4, 5, 'x');
        w.cell(4, 4, 5, 'w');
        w.print();
        w.show(9, 7, 'w');
        w.control(0, 0, 5);
        w.dead(0, 0, 100);
        w.stolen(0, 5);
        w.course(24);
        w.add(0, 0);
        w.control(12, 1, 6);
        w.fork(0, 0, 1);
        w.voided(0, 0, true);
        w.voided(0, 1, true);
        w.runner(0, 0);
        w.branches(0, 1);
        w.start(0, 9);
        w.punch(0, 1, 9);
        w.finish(0, 9);
        w.rule(0, 50);
        w.fix(0, 7, 8);
        w.team(0, 1);
        w.land(5, 5);
        return w;
    }

    private static void landForgets() {
        CHECK.holds("all is as at first", Probe.of(LandTest::landedAnew).equals(Probe.of(ControlWood::new)));
        ControlWood w = landedAnew();
        CHECK.due("the map, too", 0, () -> w.print());
        CHECK.due("control", 0, () -> w.control(0, 0, 5));
        CHECK.due("never stolen", -1, () -> w.stolen(0, 7));
        CHECK.due("course", 0, () -> w.course(24));
        w.add(0, 0);
        CHECK.due("no leg is void", false, () -> w.voided(0, 0, false));
        CHECK.due("no leg is void", false, () -> w.voided(0, 1, false));
        CHECK.due("runner", 0, () -> w.runner(0, 0));
        CHECK.fails(ARGUMENT, "no fork", () -> w.branches(0, 1));
        CHECK.due("no branches", 0, () -> w.branches(0, 0));
        CHECK.due("no punches", 7L, () -> w.checksum());
        CHECK.due("no start", -1, () -> w.start(0, 9));
        CHECK.due("no ruling", 9, () -> w.rule(0, -1));
        CHECK.due("not dead", 1, () -> w.punch(0, 0, 50));
        CHECK.due("no fix", 1, () -> w.fix(0, 7, 0));
        CHECK.due("no team", 0, () -> w.team(0, 1));
        CHECK.due("one run", 0, () -> w.runs(0, 0, 0));
    }

    private static void cell() {
        ControlWood w = new ControlWood();
        CHECK.due("growth at first", 0, () -> w.cell(6, 9, 9, '.'));
        CHECK.due("growth before", 9, () -> w.cell(6, 2, 1, 'x'));
        CHECK.due("growth before", 2, () -> w.cell(6, 0, 0, 'w'));
        CHECK.due("last cell", 0, () -> w.cell(24, 1, 0, '.'));
        CHECK.due("what it costs", 15, () -> w.cost(23, 24, false));
        CHECK.due("the map is as before", 10, () -> w.cost(23, 24, true));
        CHECK.fails(INDEX, "cell 25", () -> w.cell(25, 10, 0, '.'));
        CHECK.fails(INDEX, "cell -1", () -> w.cell(-1, 0, 0, '?'));
        CHECK.fails(INDEX, "cell max", () -> w.cell(Integer.MAX_VALUE, 0, 0, '.'));
        CHECK.fails(ARGUMENT, "growth 10", () -> w.cell(24, 10, 0, '.'));
        CHECK.fails(ARGUMENT, "growth -1", () -> w.cell(24, -1, 0, '.'));
        CHECK.fails(ARGUMENT, "height 10", () -> w.cell(24, 0, 10, '.'));
        CHECK.fails(ARGUMENT, "height -1", () -> w.cell(24, 0, -1, '.'));
        CHECK.fails(ARGUMENT, "kind W", () -> w.cell(24, 0, 0, 'W'));
        CHECK.fails(ARGUMENT, "kind o", () -> w.cell(24, 0, 0, 'o'));
    }

    private static void print() {
        ControlWood w = new ControlWood();
        w.cell(0, 1, 0, '.');
        w.cell(1, 0, 0, 'x');
        w.cell(2, 0, 7, '.');
        w.cell(3, 5, 0, 'w');
        w.show(4, 3, '.');
        CHECK.due("heights aside", 4, () -> w.print());
        CHECK.due("printed anew", 0, () -> w.print());
        CHECK.due("as the land", 15, () -> w.cost(5, 0, true));
        CHECK.due("as the land", 10, () -> w.cost(9, 4, true));
        CHECK.due("growth of the land", 0, () -> w.show(1, 0, '.'));
        CHECK.due("growth of the land", 5, () -> w.show(3, 5, 'w'));
        CHECK.due("the kind alone", 1, () -> w.print());
    }

    private static void show() {
        ControlWood w = new ControlWood();
        CHECK.due("growth at first", 0, () -> w.show(7, 9, '.'));
        CHECK.due("growth before", 9, () -> w.show(7, 4, '.'));
        CHECK.due("on the map", 30, () -> w.cost(2, 7, true));
        CHECK.due("not on the land", 10, () -> w.cost(2, 7, false));
        CHECK.due("the land's growth", 0, () -> w.cell(7, 6, 0, '.'));
        CHECK.due("the map's growth", 4, () -> w.show(7, 4, '.'));
        CHECK.fails(INDEX, "cell 25", () -> w.show(25, 10, '.'));
        CHECK.fails(INDEX, "cell -1", () -> w.show(-1, 0, '.'));
        CHECK.fails(ARGUMENT, "growth 10", () -> w.show(7, 10, '.'));
        CHECK.fails(ARGUMENT, "growth -1", () -> w.show(7, -1, '.'));
        CHECK.fails(ARGUMENT, "kind", () -> w.show(7, 0, ' '));
    }

    private static void cost() {
        ControlWood w = new ControlWood();
        w.land(3, 3);
        CHECK.due("to itself", 0, () -> w.cost(4, 4, false));
        w.cell(1, 2, 3, '.');
        CHECK.due("growth and climb", 38, () -> w.cost(0, 1, false));
        CHECK.due("down again", 10, () -> w.cost(1, 0, false));
        CHECK.due("round about", 40, () -> w.cost(0, 2, false));
        w.cell(1, 0, 1, '.');
        CHECK.due("over it", 26, () -> w.cost(0, 2, false));
        w.cell(1, 2, 3, '.');
        CHECK.due("heights of the land on the map", 28, () -> w.cost(0, 1, true));
        w.cell(1, 9, 9, '.');
        CHECK.due("dearest", 109, () -> w.cost(0, 1, false));
        CHECK.fails(INDEX, "from 9", () -> w.cost(9, 0, false));
        CHECK.fails(INDEX, "from -1", () -> w.cost(-1, 0, false));
        CHECK.fails(INDEX, "to 9", () -> w.cost(0, 9, true));
        CHECK.fails(INDEX, "to -1", () -> w.cost(0, -1, true));
    }

    private static void costBesideWater() {
        ControlWood w = new ControlWood();
        w.land(3, 3);
        w.cell(3, 0, 0, 'w');
        w.cell(4, 0, 0, 'w');
        w.cell(5, 0, 0, 'x');
        CHECK.due("out of bounds can be entered", 60, () -> w.cost(0, 6, false));
        CHECK.fails(NO_SUCH, "into water", () -> w.cost(0, 3, false));
        CHECK.due("water to itself", 0, () -> w.cost(4, 4, false));
        CHECK.due("out of the water", 10, () -> w.cost(4, 1, false));
        CHECK.due("the map knows none", 20, () -> w.cost(0, 6, true));
        w.print();
        CHECK.fails(NO_SUCH, "not out of bounds on the map", () -> w.cost(0, 6, true));
        CHECK.fails(NO_SUCH, "nor into it", () -> w.cost(2, 5, true));
        CHECK.due("but out of it", 10, () -> w.cost(5, 8, true));
        CHECK.due("and to itself", 0, () -> w.cost(5, 5, true));
        CHECK.fails(NO_SUCH, "water on the map", () -> w.cost(0, 4, true));
    }

    private static void misled() {
        ControlWood w = new ControlWood();
        w.land(3, 3);
        w.cell(1, 9, 0, '.');
        CHECK.due("as the map does not know", 65, () -> w.misled(0, 2));
        CHECK.due("the best one", 40, () -> w.cost(0, 2, false));
        w.print();
        CHECK.due("as the map knows", 40, () -> w.misled(0, 2));
        CHECK.due("to itself", 0, () -> w.misled(1, 1));
        w.show(1, 0, '.');
        w.cell(1, 0, 0, 'w');
        CHECK.fails(NO_SUCH, "through water", () -> w.misled(0, 2));
        CHECK.fails(NO_SUCH, "into water", () -> w.misled(0, 1));
        CHECK.due("out of water", 10, () -> w.misled(1, 2));
        w.cell(1, 1, 0, 'x');
        CHECK.due("out of bounds on the land", 25, () -> w.misled(0, 2));
        w.show(1, 0, 'x');
        CHECK.due("about it", 40, () -> w.misled(0, 2));
        w.show(4, 0, 'x');
        w.show(7, 0, 'w');
        CHECK.fails(NO_SUCH, "no way on the map", () -> w.misled(0, 2));
        CHECK.fails(INDEX, "from 9", () -> w.misled(9, 0));
        CHECK.fails(INDEX, "from -1", () -> w.misled(-1, 0));
        CHECK.fails(INDEX, "to 9", () -> w.misled(0, 9));
        CHECK.fails(INDEX, "to -1", () -> w.misled(0, -1));
    }

    private static void misledTies() {
        ControlWood w = new ControlWood();
        w.land(3, 3);
        for (int i = 0; i < 9; i++) {
            w.cell(i, i, 0, '.');
        }
        CHECK.due("by 1, 2, 5", 40 + 5 * (1 + 2 + 5 + 8), () -> w.misled(0, 8));
        CHECK.due("by 5, 2, 1", 40 + 5 * (5 + 2 + 1), () -> w.misled(8, 0));
        CHECK.due("by 1, 0, 3", 40 + 5 * (1 + 0 + 3 + 6), () -> w.misled(2, 6));
        CHECK.due("by 3, 0, 1", 40 + 5 * (3 + 0 + 1 + 2), () -> w.misled(6, 2));
    }
}
