/** Promises 44 to 47: figures. */
public final class FigureTest {
    private static final Class<IndexOutOfBoundsException> INDEX = IndexOutOfBoundsException.class;
    private static final Class<ArithmeticException> ARITHMETIC = ArithmeticException.class;
    private static final Check CHECK = new Check();

    public static void main(String[] args) {
        okShare();
        meanTime();
        checksum();
        isSound();
        CHECK.end();
    }

    private static void okShare() {
        ControlWood w = ResultTest.wood();
        CHECK.fails(ARITHMETIC, "nobody", () -> w.okShare(1));
        w.runner(0, 1);
        CHECK.due("none", 0f, () -> w.okShare(1));
        ResultTest.run(w, 1, 0, 10);
        ResultTest.run(w, 1, 0, 10);
        CHECK.due("two of three", 2f / 3f, () -> w.okShare(1));
        CHECK.fails(ARITHMETIC, "nobody", () -> w.okShare(0));
        ResultTest.run(w, 0, 0, 10);
        CHECK.due("none", 0f, () -> w.okShare(0));
        CHECK.due("of one course", 2f / 3f, () -> w.okShare(1));
        CHECK.fails(INDEX, "course 2", () -> w.okShare(2));
        CHECK.fails(INDEX, "course -1", () -> w.okShare(-1));
    }

    private static void meanTime() {
        ControlWood w = ResultTest.wood();
        CHECK.fails(ARITHMETIC, "nobody", () -> w.meanTime(1));
        w.runner(0, 1);
        CHECK.fails(ARITHMETIC, "nobody is 'o'", () -> w.meanTime(1));
        ResultTest.run(w, 1, 0, 10);
        CHECK.due("one", 10.0, () -> w.meanTime(1));
        ResultTest.run(w, 1, 0, 11);
        ResultTest.run(w, 1, 0, 11);
        CHECK.due("three", 32.0 / 3.0, () -> w.meanTime(1));
        ResultTest.run(w, 0, 0, 99, 0, 1, 1, 2, 2, 3);
        CHECK.due("of one course", 32.0 / 3.0, () -> w.meanTime(1));
        ControlWood z = ResultTest.wood();
        ResultTest.run(z, 1, 0, 7);
        CHECK.due("the first runner", 7.0, () -> z.meanTime(1));
        CHECK.due("of the other", 99.0, () -> w.meanTime(0));
        w.rule(1, 50);
        CHECK.due("below 0", -18.0 / 3.0, () -> w.meanTime(1));
        CHECK.fails(INDEX, "course 2", () -> w.meanTime(2));
        CHECK.fails(INDEX, "course -1", () -> w.meanTime(-1));
    }

    private static void checksum() {
        ControlWood w = ResultTest.wood();
        CHECK.due("at first", 7L, () -> w.checksum());
        w.runner(0, 1);
        w.runner(0, 1);
        w.start(0, 0);
        w.start(1, 0);
        w.punch(1, 2, 30);
        CHECK.due("one punch", (7L * 31 + 2) * 31 + 30, () -> w.checksum());
        w.punch(0, 1, 40);
        CHECK.due("by runners", (((7L * 31 + 1) * 31 + 40) * 31 + 2) * 31 + 30, () -> w.checksum());
        w.dead(1, 50, 60);
        w.punch(0, 1, 55);
        CHECK.due("a lost one", (((7L * 31 + 1) * 31 + 40) * 31 + 2) * 31 + 30, () -> w.checksum());
        for (int i = 0; i < 19; i++) {
            w.punch(0, 3, 99990);
        }
        long sum = (7L * 31 + 1) * 31 + 40;
        for (int i = 0; i < 19; i++) {
            sum = (sum * 31 + 3) * 31 + 99990;
        }
        CHECK.due("it wraps around", (sum * 31 + 2) * 31 + 30, () -> w.checksum());
    }

    private static void isSound() {
        ControlWood w = ResultTest.wood();
        CHECK.due("without runners", true, () -> w.isSound());
        w.stolen(1, 0);
        ResultTest.run(w, 0, 5, 100, 0, 10, 2, 60);
        ResultTest.run(w, 0, 5, 100, 0, 10);
        ResultTest.run(w, 1, 5, 100);
        w.rule(0, 99);
        for (int leg = 0; leg < 4; leg++) {
            w.voided(0, leg, true);
            CHECK.due("with void legs", true, () -> w.isSound());
        }
        w.cell(7, 9, 9, '.');
        w.show(8, 9, 'w');
        w.show(9, 0, 'x');
        CHECK.due("with a rough map", true, () -> w.isSound());
    }
}
