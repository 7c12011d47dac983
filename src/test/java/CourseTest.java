import java.util.NoSuchElementException;

/** Promises 8 to 14: controls, courses, forks. */
public final class CourseTest {
    private static final Class<IndexOutOfBoundsException> INDEX = IndexOutOfBoundsException.class;
    private static final Class<IllegalArgumentException> ARGUMENT = IllegalArgumentException.class;
    private static final Class<NoSuchElementException> NO_SUCH = NoSuchElementException.class;
    private static final Class<IllegalStateException> STATE = IllegalStateException.class;
    private static final Class<UnsupportedOperationException> UNSUPPORTED = UnsupportedOperationException.class;
    private static final Check CHECK = new Check();

    public static void main(String[] args) {
        control();
        areNear();
        course();
        add();
        voidLegsStay();
        fork();
        isLawful();
        isLawfulByLegs();
        lengthOf();
        CHECK.end();
    }

    private static void control() {
        ControlWood w = new ControlWood();
        w.cell(3, 0, 0, 'w');
        w.show(4, 0, 'w');
        CHECK.due("first", 0, () -> w.control(0, 0, 0));
        CHECK.due("water on the map alone", 1, () -> w.control(4, 3, 99));
        CHECK.due("a cell that has one", 2, () -> w.control(4, 3, 99));
        CHECK.fails(INDEX, "cell 25", () -> w.control(25, 4, 100));
        CHECK.fails(INDEX, "cell -1", () -> w.control(-1, 0, 0));
        CHECK.fails(ARGUMENT, "site 4, in water", () -> w.control(3, 4, 0));
        CHECK.fails(ARGUMENT, "site -1", () -> w.control(0, -1, 0));
        CHECK.fails(ARGUMENT, "points 100", () -> w.control(0, 0, 100));
        CHECK.fails(ARGUMENT, "points -1", () -> w.control(0, 0, -1));
        CHECK.fails(UNSUPPORTED, "water", () -> w.control(3, 0, 0));
        w.cell(5, 0, 0, 'x');
        CHECK.due("out of bounds", 3, () -> w.control(5, 0, 0));
        for (int i = 4; i < 12; i++) {
            int number = i;
            CHECK.due("control " + i, number, () -> w.control(number, number % 4, number));
        }
        CHECK.fails(UNSUPPORTED, "water, when there are 12", () -> w.control(3, 0, 0));
        CHECK.fails(STATE, "a thirteenth", () -> w.control(0, 0, 0));
        CHECK.fails(ARGUMENT, "a thirteenth of site 4", () -> w.control(0, 4, 0));
    }

    private static void areNear() {
        ControlWood w = new ControlWood();
        w.land(12, 12);
        int[] cells = {0, 2, 3, 5, 6, 13, 14, 36, 60, 62};
        int[] sites = {0, 1, 1, 0, 0, 1, 1, 2, 0, 0};
        boolean[] near = {true, true, false, true, false, true, false, false, true, false};
        for (int i = 0; i < cells.length; i++) {
            w.control(cells[i], sites[i], 0);
        }
        for (int i = 0; i < cells.length; i++) {
            int other = i;
            CHECK.due("areNear(0, " + i + ")", near[i], () -> w.areNear(0, other));
            CHECK.due("areNear(" + i + ", 0)", near[i], () -> w.areNear(other, 0));
            CHECK.due("itself " + i, true, () -> w.areNear(other, other));
        }
        CHECK.fails(INDEX, "10", () -> w.areNear(10, 0));
        CHECK.fails(INDEX, "-1", () -> w.areNear(-1, 0));
        CHECK.fails(INDEX, "other 10", () -> w.areNear(0, 10));
        CHECK.fails(INDEX, "other -1", () -> w.areNear(0, -1));
        // The last cell of a row and the first of the next are far apart.
        w.control(11, 3, 0);
        w.control(12, 3, 0);
        CHECK.due("across the edge", false, () -> w.areNear(10, 11));
    }

    private static void course() {
        ControlWood w = new ControlWood();
        CHECK.fails(INDEX, "cell 25", () -> w.course(25));
        CHECK.fails(INDEX, "cell -1", () -> w.course(-1));
        for (int i = 0; i < 6; i++) {
            int number = i;
            CHECK.due("course " + i, number, () -> w.course(24 - number));
        }
        CHECK.fails(STATE, "a seventh", () -> w.course(0));
        CHECK.fails(INDEX, "a seventh nowhere", () -> w.course(25));
        CHECK.due("one leg", false, () -> w.voided(5, 0, true));
        CHECK.fails(INDEX, "no other", () -> w.voided(5, 1, true));
    }

    private static void add() {
        ControlWood w = new ControlWood();
        w.control(10, 0, 0);
        w.control(20, 0, 0);
        w.course(0);
        w.course(0);
        CHECK.due("first", 1, () -> w.add(0, 1));
        CHECK.due("length", 80, () -> w.lengthOf(0));
        CHECK.due("second", 2, () -> w.add(0, 0));
        CHECK.due("again", 3, () -> w.add(0, 1));
        CHECK.due("in this order", 120, () -> w.lengthOf(0));
        CHECK.fails(INDEX, "course 2", () -> w.add(2, 0));
        CHECK.fails(INDEX, "course -1", () -> w.add(-1, 0));
        CHECK.fails(INDEX, "control 2", () -> w.add(0, 2));
        CHECK.fails(INDEX, "control -1", () -> w.add(0, -1));
        for (int i = 4; i < 10; i++) {
            int count = i;
            CHECK.due("control " + i, count, () -> w.add(0, 0));
        }
        CHECK.fails(STATE, "a tenth", () -> w.add(0, 0));
        w.runner(0, 0);
        CHECK.fails(UNSUPPORTED, "somebody is entered", () -> w.add(0, 0));
        CHECK.fails(INDEX, "control 2, somebody is entered", () -> w.add(0, 2));
        CHECK.due("nobody for the other", 1, () -> w.add(1, 0));
        w.team(1, 1);
        CHECK.due("a team is nobody", 2, () -> w.add(1, 1));
    }

    private static void voidLegsStay() {
        ControlWood w = new ControlWood();
        w.control(10, 0, 0);
        w.course(0);
        w.voided(0, 0, true);
        w.add(0, 0);
        CHECK.due("leg 0", true, () -> w.voided(0, 0, false));
        CHECK.due("leg 1", false, () -> w.voided(0, 1, true));
        w.add(0, 0);
        CHECK.due("leg 0", false, () -> w.voided(0, 0, false));
        CHECK.due("leg 1", true, () -> w.voided(0, 1, true));
        CHECK.due("leg 2", false, () -> w.voided(0, 2, false));
    }

    private static void fork() {
        ControlWood w = new ControlWood();
        for (int i = 0; i < 4; i++) {
            w.control(i * 5, 0, 0);
        }
        w.course(24);
        w.course(24);
        w.add(0, 0);
        w.add(0, 1);
        w.add(0, 2);
        CHECK.due("one", 1, () -> w.fork(0, 2, 3));
        CHECK.due("two", 2, () -> w.fork(0, 0, 3));
        CHECK.due("in place of it", 2, () -> w.fork(0, 0, 1));
        CHECK.due("all", 3, () -> w.fork(0, 1, 3));
        CHECK.fails(INDEX, "course 2", () -> w.fork(2, 0, 3));
        CHECK.fails(INDEX, "course -1", () -> w.fork(-1, 0, 3));
        CHECK.fails(INDEX, "place 3", () -> w.fork(0, 3, 3));
        CHECK.fails(INDEX, "place -1", () -> w.fork(0, -1, 3));
        CHECK.fails(INDEX, "no place", () -> w.fork(1, 0, 3));
        CHECK.fails(INDEX, "control 4", () -> w.fork(0, 0, 4));
        CHECK.fails(INDEX, "control -1", () -> w.fork(0, 0, -1));
        CHECK.fails(ARGUMENT, "its control", () -> w.fork(0, 0, 0));
        w.runner(0, 0);
        CHECK.fails(UNSUPPORTED, "somebody is entered", () -> w.fork(0, 0, 3));
        CHECK.fails(UNSUPPORTED, "its control, somebody is entered", () -> w.fork(0, 0, 0));
        CHECK.fails(INDEX, "place 3, somebody is entered", () -> w.fork(0, 3, 0));
        w.add(1, 0);
        w.add(1, 1);
        CHECK.due("nobody for the other", 1, () -> w.fork(1, 1, 0));
        w.team(1, 1);
        CHECK.due("a team is nobody", 2, () -> w.fork(1, 0, 1));
    }

    private static void isLawful() {
        ControlWood w = new ControlWood();
        w.control(2, 0, 0);
        w.control(5, 1, 0);
        w.control(14, 0, 0);
        w.control(24, 2, 0);
        w.control(0, 3, 0);
        w.course(0);
        CHECK.due("no control", false, () -> w.isLawful(0));
        w.add(0, 0);
        CHECK.due("one", true, () -> w.isLawful(0));
        w.add(0, 1);
        CHECK.due("two", true, () -> w.isLawful(0));
        w.fork(0, 1, 4);
        CHECK.due("forks aside", true, () -> w.isLawful(0));
        w.add(0, 3);
        CHECK.due("three", true, () -> w.isLawful(0));
        w.add(0, 2);
        CHECK.due("too near", false, () -> w.isLawful(0));
        w.course(12);
        w.add(1, 3);
        w.add(1, 1);
        w.add(1, 3);
        CHECK.due("twice", false, () -> w.isLawful(1));
        w.course(2);
        w.add(2, 3);
        w.add(2, 0);
        CHECK.due("on the start", false, () -> w.isLawful(2));
        w.course(24);
        w.add(3, 3);
        CHECK.due("the first one on the start", false, () -> w.isLawful(3));
        CHECK.fails(INDEX, "course 4", () -> w.isLawful(4));
        CHECK.fails(INDEX, "course -1", () -> w.isLawful(-1));
    }

    private static void isLawfulByLegs() {
        ControlWood w = new ControlWood();
        w.land(3, 3);
        w.control(8, 0, 0);
        w.control(4, 1, 0);
        w.course(0);
        w.add(0, 0);
        w.cell(1, 0, 0, 'x');
        w.cell(3, 0, 0, 'w');
        CHECK.due("the map does not show it", true, () -> w.isLawful(0));
        CHECK.due("length", 80, () -> w.lengthOf(0));
        w.print();
        CHECK.due("no way out", false, () -> w.isLawful(0));
        CHECK.fails(NO_SUCH, "no length", () -> w.lengthOf(0));
        w.show(1, 0, '.');
        CHECK.due("a way", true, () -> w.isLawful(0));
        w.show(0, 0, 'w');
        CHECK.due("no way back", false, () -> w.isLawful(0));
        CHECK.fails(NO_SUCH, "no length", () -> w.lengthOf(0));
        w.course(2);
        w.add(1, 1);
        CHECK.due("another start", true, () -> w.isLawful(1));
        w.show(4, 0, 'x');
        CHECK.due("no way in", false, () -> w.isLawful(1));
    }

    private static void lengthOf() {
        ControlWood w = new ControlWood();
        w.control(4, 0, 0);
        w.control(24, 1, 0);
        w.course(0);
        CHECK.due("one leg to itself", 0, () -> w.lengthOf(0));
        w.add(0, 0);
        CHECK.due("there and back", 80, () -> w.lengthOf(0));
        w.fork(0, 0, 1);
        CHECK.due("forks aside", 80, () -> w.lengthOf(0));
        w.add(0, 1);
        CHECK.due("about", 160, () -> w.lengthOf(0));
        w.cell(4, 2, 2, '.');
        CHECK.due("the height of the land", 172, () -> w.lengthOf(0));
        w.show(4, 1, '.');
        CHECK.due("the growth of the map", 177, () -> w.lengthOf(0));
        CHECK.fails(INDEX, "course 1", () -> w.lengthOf(1));
        CHECK.fails(INDEX, "course -1", () -> w.lengthOf(-1));
    }
}
