/** The boundary cases of promises 44 to 47: figures. */
public final class EdgeFigureTest {
    private static final Check CHECK = new Check();
    /** Controls 0 to 3; course 0 with 0, 1, 2; course 1 with none. */
    private static final Edge WOOD = new Edge(CHECK, ResultTest::wood);

    public static void main(String[] args) {
        promise44();
        promise45();
        promise46();
        promise46WrapsAround();
        promise47();
        CHECK.end();
    }

    private static void times(ControlWood w, int... times) {
        for (int time : times) {
            ResultTest.run(w, 1, 0, time);
        }
    }

    private static void entered(ControlWood w, int count) {
        for (int i = 0; i < count; i++) {
            w.runner(0, 1);
        }
    }

    private static Edge six() {
        return new Edge(CHECK, ControlWood::new).with(w -> {
            for (int i = 0; i < 6; i++) {
                w.course(i);
            }
            ResultTest.run(w, 5, 0, 9);
        });
    }

    private static void promise44() {
        WOOD.refused("44: nobody is entered", Edge.ARITHMETIC, w -> w.okShare(1));
        Edge other = WOOD.with(w -> w.runner(0, 0));
        other.refused("44: for another course somebody is", Edge.ARITHMETIC, w -> w.okShare(1));
        other.due("44: none of one", 0f, w -> w.okShare(0));
        WOOD.refusedOutside("44: course", Edge.INDEX, 0, 1, (w, course) -> w.okShare(course));
        six().due("44: the last course", 1f, w -> w.okShare(5));
        six().refusedOutside("44: course of six", Edge.INDEX, 0, 5, (w, course) -> w.okShare(course));
        new Edge(CHECK, ControlWood::new).refused("44: no course yet", Edge.INDEX, w -> w.okShare(0));
        for (int i = 0; i <= 12; i++) {
            int ok = i;
            float due = (float) ok / 12f;
            Edge share = WOOD.with(w -> entered(w, 12 - ok)).with(w -> times(w, new int[ok]));
            share.due("44: " + i + " of twelve", due, w -> w.okShare(1));
        }
        Edge third = WOOD.with(w -> entered(w, 2)).with(w -> times(w, 9));
        third.due("44: a third as a float", 1f / 3f, w -> w.okShare(1));
        Edge missing = WOOD.with(w -> ResultTest.run(w, 0, 0, 9)).with(w -> ResultTest.run(w, 0, 0, 9, 0, 1, 1, 2, 2, 3));
        missing.due("44: one of two is 'm'", 0.5f, w -> w.okShare(0));
        missing.with(w -> w.runner(0, 1)).due("44: of the course", 0.5f, w -> w.okShare(0));
    }

    private static void promise45() {
        WOOD.refused("45: nobody", Edge.ARITHMETIC, w -> w.meanTime(1));
        WOOD.with(w -> entered(w, 12)).refused("45: nobody is 'o'", Edge.ARITHMETIC, w -> w.meanTime(1));
        Edge other = WOOD.with(w -> times(w, 9));
        other.refused("45: on another course somebody is", Edge.ARITHMETIC, w -> w.meanTime(0));
        WOOD.refusedOutside("45: course", Edge.INDEX, 0, 1, (w, course) -> w.meanTime(course));
        six().due("45: the last course", 9.0, w -> w.meanTime(5));
        six().refusedOutside("45: course of six", Edge.INDEX, 0, 5, (w, course) -> w.meanTime(course));
        new Edge(CHECK, ControlWood::new).refused("45: no course yet", Edge.INDEX, w -> w.meanTime(0));
        WOOD.with(w -> times(w, 0)).due("45: 0", 0.0, w -> w.meanTime(1));
        WOOD.with(w -> times(w, 99999)).due("45: the most", 99999.0, w -> w.meanTime(1));
        Edge least = WOOD.with(w -> times(w, 99999)).with(w -> w.voided(1, 0, true)).with(w -> w.rule(0, 99999));
        least.due("45: the least", -99999.0, w -> w.meanTime(1));
        WOOD.with(w -> times(w, 1, 1, 0)).due("45: two thirds as a double", 2.0 / 3.0, w -> w.meanTime(1));
        Edge twelve = WOOD.with(w -> times(w, 1, 2, 3, 4, 5, 6, 7, 8, 9, 10, 11, 99999));
        twelve.due("45: twelve", (66 + 99999) / 12.0, w -> w.meanTime(1));
        Edge both = WOOD.with(w -> times(w, 10)).with(w -> ResultTest.run(w, 0, 0, 99, 0, 1, 1, 2, 2, 3));
        both.with(w -> entered(w, 3)).due("45: of the course, who are 'o'", 10.0, w -> w.meanTime(1));
        both.due("45: of the other course", 99.0, w -> w.meanTime(0));
    }

    private static void promise46() {
        new Edge(CHECK, ControlWood::new).due("46: 7 at first", 7L, w -> w.checksum());
        WOOD.with(w -> entered(w, 12)).due("46: without punches", 7L, w -> w.checksum());
        Edge two = WOOD.with(w -> entered(w, 2)).with(w -> w.start(0, 0)).with(w -> w.start(1, 0));
        two.with(w -> w.punch(0, 0, 0)).due("46: control 0 at 0", 7L * 31 * 31, w -> w.checksum());
        two.with(w -> w.punch(1, 3, 99999)).due("46: at 99999", (7L * 31 + 3) * 31 + 99999, w -> w.checksum());
        Edge turned = two.with(w -> w.punch(1, 3, 5)).with(w -> w.punch(0, 2, 6));
        turned.due("46: runner by runner", (((7L * 31 + 2) * 31 + 6) * 31 + 3) * 31 + 5, w -> w.checksum());
        Edge lost = turned.with(w -> w.dead(0, 0, 9)).with(w -> w.punch(0, 0, 6));
        lost.due("46: those that are kept", (((7L * 31 + 2) * 31 + 6) * 31 + 3) * 31 + 5, w -> w.checksum());
        turned.with(w -> w.finish(0, 9)).due("46: a finish is none", (((7L * 31 + 2) * 31 + 6) * 31 + 3) * 31 + 5, w -> w.checksum());
        turned.with(w -> w.land(5, 5)).due("46: 7 anew", 7L, w -> w.checksum());
    }

    /** As many punches as can be kept: the sum passes the largest long, and ends below 0 or above it as longs do. */
    private static void promise46WrapsAround() {
        for (int i = 1; i <= 12; i++) {
            int count = i;
            Edge full = WOOD.with(w -> entered(w, count)).with(w -> {
                for (int runner = 0; runner < count; runner++) {
                    w.start(runner, 0);
                    for (int k = 0; k < 20; k++) {
                        w.punch(runner, (runner + k) % 4, 99999 - 19 + k);
                    }
                }
            });
            java.math.BigInteger sum = java.math.BigInteger.valueOf(7);
            for (int runner = 0; runner < count; runner++) {
                for (int k = 0; k < 20; k++) {
                    sum = next(next(sum, (runner + k) % 4), 99999 - 19 + k);
                }
            }
            long due = sum.longValue();
            full.due("46: the punches of " + i + " wrap around", due, w -> w.checksum());
        }
    }

    private static java.math.BigInteger next(java.math.BigInteger sum, int number) {
        return sum.multiply(java.math.BigInteger.valueOf(31)).add(java.math.BigInteger.valueOf(number));
    }

    private static void promise47() {
        new Edge(CHECK, ControlWood::new).due("47: a new object", true, w -> w.isSound());
        WOOD.with(w -> entered(w, 12)).due("47: nobody is 'o'", true, w -> w.isSound());
        Edge most = WOOD.with(w -> times(w, 0, 1, 2, 3, 4, 5, 6, 7, 8, 9, 10, 99999)).with(w -> w.voided(1, 0, true));
        most.due("47: twelve who are 'o', a void leg", true, w -> w.isSound());
        most.with(w -> w.rule(11, 0)).with(w -> w.rule(0, 99999)).due("47: by other starts", true, w -> w.isSound());
        Edge excused = WOOD.with(w -> {
            for (int i = 0; i < 3; i++) {
                w.stolen(i, 0);
            }
            for (int leg = 0; leg < 4; leg++) {
                w.voided(0, leg, true);
            }
        });
        excused.with(w -> ResultTest.run(w, 0, 5, 100)).due("47: all excused, all void", true, w -> w.isSound());
        Edge parts = excused.with(w -> ResultTest.run(w, 0, 5, 100, 1, 50)).with(w -> ResultTest.run(w, 0, 5, 100, 0, 7, 2, 50));
        parts.due("47: some excused, all void", true, w -> w.isSound());
        Edge wet = WOOD.with(w -> {
            for (int cell = 0; cell < 25; cell++) {
                w.cell(cell, 9 - cell % 10, cell % 10, cell % 3 == 0 ? 'w' : '.');
            }
        });
        wet.due("47: the map is not the land", true, w -> w.isSound());
        wet.with(w -> w.print()).due("47: the map is the land", true, w -> w.isSound());
        Edge shut = WOOD.with(w -> {
            w.land(12, 12);
            for (int cell = 0; cell < 144; cell++) {
                w.show(cell, 9, 'x');
            }
        });
        shut.due("47: the map knows no way at all", true, w -> w.isSound());
    }
}
