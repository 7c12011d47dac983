import java.util.NoSuchElementException;

/** Promises 26 to 33: results. */
public final class ResultTest {
    private static final Class<IndexOutOfBoundsException> INDEX = IndexOutOfBoundsException.class;
    private static final Class<NoSuchElementException> NO_SUCH = NoSuchElementException.class;
    private static final Check CHECK = new Check();

    public static void main(String[] args) {
        states();
        found();
        excused();
        excusedByNext();
        outOfBounds();
        timesOfVoidLegs();
        splits();
        splitsByBranches();
        place();
        reference();
        referenceByCells();
        pace();
        loss();
        lossOfLargeNumbers();
        points();
        pointsBelowZero();
        wrongNumbers();
        CHECK.end();
    }

    /** Course 0 with controls 0, 1, 2; course 1 without any. */
    static ControlWood wood() {
        ControlWood w = new ControlWood();
        w.control(4, 0, 0);
        w.control(24, 1, 0);
        w.control(20, 2, 0);
        w.control(12, 3, 0);
        w.course(0);
        w.add(0, 0);
        w.add(0, 1);
        w.add(0, 2);
        w.course(10);
        return w;
    }

    /** A runner with a start, punches as pairs of control and seconds, and a finish. */
    static int run(ControlWood w, int course, int start, int finish, int... punches) {
        int runner = w.runner(0, course);
        w.start(runner, start);
        for (int i = 0; i + 1 < punches.length; i += 2) {
            w.punch(runner, punches[i], punches[i + 1]);
        }
        w.finish(runner, finish);
        return runner;
    }

    private static void states() {
        ControlWood w = wood();
        w.runner(0, 0);
        CHECK.due("no start", 'n', () -> w.state(0));
        CHECK.fails(NO_SUCH, "no time", () -> w.time(0));
        w.start(0, 10);
        CHECK.due("no finish", 'r', () -> w.state(0));
        CHECK.fails(NO_SUCH, "no time", () -> w.time(0));
        w.punch(0, 0, 20);
        w.punch(0, 1, 30);
        w.punch(0, 2, 40);
        CHECK.due("no finish", 'r', () -> w.state(0));
        w.finish(0, 50);
        CHECK.due("all found", 'o', () -> w.state(0));
        CHECK.due("time", 40, () -> w.time(0));
        run(w, 0, 0, 50, 0, 20, 1, 30);
        CHECK.due("one missing", 'm', () -> w.state(1));
        CHECK.fails(NO_SUCH, "no time", () -> w.time(1));
        CHECK.fails(NO_SUCH, "no split", () -> w.split(1, 0));
        CHECK.fails(NO_SUCH, "no place", () -> w.place(1));
        CHECK.fails(NO_SUCH, "no reference", () -> w.reference(1, 0));
        CHECK.fails(NO_SUCH, "no pace", () -> w.pace(1));
        CHECK.fails(NO_SUCH, "no loss", () -> w.loss(1, 0));
        CHECK.fails(NO_SUCH, "no points", () -> w.points(1));
        run(w, 1, 0, 50);
        CHECK.due("no controls", 'o', () -> w.state(2));
        w.runner(3, 1);
        CHECK.due("no start", 'n', () -> w.state(3));
        CHECK.fails(NO_SUCH, "no split", () -> w.split(3, 0));
    }

    private static void found() {
        ControlWood w = wood();
        run(w, 0, 0, 90, 1, 5, 0, 10, 3, 15, 2, 20, 1, 30, 0, 40, 2, 50, 2, 60);
        CHECK.due("others do not matter", 'o', () -> w.state(0));
        CHECK.due("the first one", 10, () -> w.split(0, 0));
        CHECK.due("behind it", 20, () -> w.split(0, 1));
        CHECK.due("the first behind it", 20, () -> w.split(0, 2));
        CHECK.due("to the finish", 40, () -> w.split(0, 3));
        run(w, 0, 0, 90, 0, 10, 2, 20, 1, 30);
        CHECK.due("in another order", 'm', () -> w.state(1));
        run(w, 0, 7, 9, 0, 7, 1, 7, 2, 7);
        CHECK.due("all at once", 'o', () -> w.state(2));
        CHECK.due("no seconds", 0, () -> w.split(2, 1));
        // One punch serves one control only.
        w.course(0);
        w.add(2, 0);
        w.add(2, 0);
        run(w, 2, 0, 90, 0, 10);
        CHECK.due("twice, found once", 'm', () -> w.state(3));
        run(w, 2, 0, 90, 0, 10, 0, 12);
        CHECK.due("found twice", 'o', () -> w.state(4));
    }

    private static void excused() {
        ControlWood w = wood();
        run(w, 0, 0, 90, 0, 10, 2, 50);
        CHECK.due("missing", 'm', () -> w.state(0));
        w.stolen(1, 51);
        CHECK.due("stolen too late", 'm', () -> w.state(0));
        w.stolen(1, 50);
        CHECK.due("stolen by then", 'o', () -> w.state(0));
        CHECK.due("to the control ahead", 10, () -> w.split(0, 0));
        CHECK.fails(NO_SUCH, "to the stolen one", () -> w.split(0, 1));
        CHECK.due("from the stolen one", 40, () -> w.split(0, 2));
        CHECK.due("time", 90, () -> w.time(0));
        w.stolen(1, -1);
        CHECK.due("never", 'm', () -> w.state(0));
        w.stolen(1, 0);
        CHECK.due("from 0 on", 'o', () -> w.state(0));
        w.stolen(0, 0);
        w.stolen(2, 90);
        run(w, 0, 5, 90);
        CHECK.due("all of them", 'o', () -> w.state(1));
        CHECK.due("one split", 85, () -> w.split(1, 3));
        CHECK.fails(NO_SUCH, "no other", () -> w.split(1, 0));
        run(w, 0, 5, 89);
        CHECK.due("the last one later than the finish", 'm', () -> w.state(2));
    }

    private static void excusedByNext() {
        ControlWood w = wood();
        w.stolen(0, 40);
        w.stolen(1, 20);
        run(w, 0, 0, 90, 2, 50);
        CHECK.due("both ahead of the next found", 'o', () -> w.state(0));
        CHECK.due("from the start", 50, () -> w.split(0, 2));
        run(w, 0, 0, 90, 1, 30, 2, 50);
        CHECK.due("found ahead of the theft of the one ahead", 'm', () -> w.state(1));
        // A punch ahead of the last found does not count, though the control was not yet stolen.
        w.stolen(0, -1);
        run(w, 0, 0, 90, 1, 5, 0, 30, 2, 50);
        CHECK.due("by order", 'o', () -> w.state(2));
        CHECK.fails(NO_SUCH, "no split", () -> w.split(2, 1));
    }

    private static void outOfBounds() {
        ControlWood w = wood();
        w.cell(7, 0, 0, 'x');
        w.runner(0, 1);
        w.fix(0, 7, 5);
        CHECK.due("no start", 'n', () -> w.state(0));
        w.start(0, 0);
        CHECK.due("no finish", 'r', () -> w.state(0));
        w.finish(0, 9);
        CHECK.due("disqualified", 'x', () -> w.state(0));
        CHECK.fails(NO_SUCH, "no time", () -> w.time(0));
        int other = run(w, 0, 0, 9);
        CHECK.due("missing", 'm', () -> w.state(other));
        w.fix(other, 6, 1);
        CHECK.due("not out of bounds", 'm', () -> w.state(other));
        w.fix(other, 7, 2);
        w.fix(other, 8, 3);
        CHECK.due("ahead of missing", 'x', () -> w.state(other));
        w.show(7, 0, '.');
        CHECK.due("by the land", 'x', () -> w.state(0));
        w.cell(7, 0, 0, 'w');
        CHECK.due("water", 'o', () -> w.state(0));
        w.show(7, 0, 'x');
        CHECK.due("on the map alone", 'o', () -> w.state(0));
    }

    private static void timesOfVoidLegs() {
        ControlWood w = wood();
        run(w, 0, 0, 100, 0, 10, 1, 30, 2, 60);
        run(w, 0, 0, 100, 0, 15, 2, 65);
        w.stolen(1, 0);
        w.voided(0, 0, true);
        CHECK.due("less leg 0", 90, () -> w.time(0));
        CHECK.due("of the other, too", 85, () -> w.time(1));
        w.voided(0, 1, true);
        CHECK.due("less leg 1", 70, () -> w.time(0));
        CHECK.due("it has none", 85, () -> w.time(1));
        w.voided(0, 2, true);
        CHECK.due("less leg 2", 40, () -> w.time(0));
        CHECK.due("from an excused one", 85, () -> w.time(1));
        w.voided(0, 3, true);
        CHECK.due("less all", 0, () -> w.time(0));
        CHECK.due("less leg 3", 50, () -> w.time(1));
        CHECK.due("its split stays", 50, () -> w.split(1, 2));
        w.rule(0, 30);
        CHECK.due("below 0", -30, () -> w.time(0));
        w.voided(0, 0, false);
        CHECK.due("with leg 0", -20, () -> w.time(0));
        CHECK.due("splits begin at the told start", 10, () -> w.split(0, 0));
        CHECK.due("isSound", true, () -> w.isSound());
    }

    private static void splits() {
        ControlWood w = wood();
        run(w, 1, 20, 50);
        CHECK.due("the only leg", 30, () -> w.split(0, 0));
        w.rule(0, 0);
        CHECK.due("by the told start", 30, () -> w.split(0, 0));
        w.voided(1, 0, true);
        CHECK.due("void", 30, () -> w.split(0, 0));
        CHECK.due("time", 20, () -> w.time(0));
    }

    private static void splitsByBranches() {
        ControlWood w = wood();
        w.fork(0, 0, 3);
        w.fork(0, 2, 3);
        for (int bits = 0; bits < 4; bits++) {
            int runner = w.runner(0, 0);
            w.branches(runner, bits);
            w.start(runner, 0);
            w.punch(runner, 3, 5);
            w.punch(runner, 0, 10);
            w.punch(runner, 1, 20);
            w.punch(runner, 2, 30);
            w.finish(runner, 40);
            char state = bits < 2 ? 'o' : 'm';
            CHECK.due("branches " + bits, state, () -> w.state(runner));
        }
        CHECK.due("control 0", 10, () -> w.split(0, 0));
        CHECK.due("control 3", 5, () -> w.split(1, 0));
    }

    private static void place() {
        ControlWood w = wood();
        run(w, 1, 0, 30);
        run(w, 1, 100, 120);
        run(w, 1, 0, 20);
        run(w, 1, 0, 25);
        run(w, 0, 0, 5);
        run(w, 0, 0, 50, 0, 10, 1, 10, 2, 10);
        w.runner(0, 1);
        int[] due = {4, 1, 1, 3};
        for (int i = 0; i < 4; i++) {
            int runner = i;
            CHECK.due("place of " + i, due[i], () -> w.place(runner));
        }
        CHECK.due("of another course", 1, () -> w.place(5));
        w.rule(3, 40);
        CHECK.due("below 0", 1, () -> w.place(3));
        CHECK.due("behind it", 2, () -> w.place(2));
        CHECK.due("behind three", 4, () -> w.place(0));
        w.cell(1, 0, 0, 'x');
        w.fix(3, 1, 1);
        CHECK.due("without those disqualified", 3, () -> w.place(0));
    }

    private static void reference() {
        ControlWood w = wood();
        run(w, 1, 0, 30);
        CHECK.due("of one", 30, () -> w.reference(0, 0));
        run(w, 1, 0, 21);
        CHECK.due("the faster one of two", 21, () -> w.reference(0, 0));
        run(w, 1, 0, 24);
        CHECK.due("two of three, cut", 22, () -> w.reference(0, 0));
        run(w, 1, 0, 100);
        CHECK.due("two of four", 22, () -> w.reference(3, 0));
        run(w, 1, 0, 10);
        CHECK.due("three of five, cut", 18, () -> w.reference(1, 0));
        w.voided(1, 0, true);
        CHECK.due("void legs, too", 18, () -> w.reference(1, 0));
        w.cell(1, 0, 0, 'x');
        w.fix(4, 1, 1);
        CHECK.due("without those disqualified", 22, () -> w.reference(1, 0));
        run(w, 0, 0, 50, 0, 1, 1, 2, 2, 3);
        CHECK.due("without other courses", 22, () -> w.reference(1, 0));
        w.stolen(1, 0);
        w.stolen(0, 0);
        run(w, 0, 0, 50, 2, 7);
        CHECK.due("of the others, without an own split", 1, () -> w.reference(6, 1));
        CHECK.due("with one from an excused control", 1, () -> w.reference(6, 2));
        run(w, 0, 0, 50, 2, 9);
        CHECK.due("two of three", 4, () -> w.reference(5, 2));
        w.cell(2, 0, 0, 'x');
        w.fix(5, 2, 1);
        CHECK.fails(NO_SUCH, "nobody has a split", () -> w.reference(6, 1));
    }

    private static void referenceByCells() {
        ControlWood w = wood();
        w.control(24, 0, 0);
        w.course(0);
        w.add(2, 0);
        w.add(2, 1);
        w.fork(2, 0, 3);
        w.fork(2, 1, 4);
        int[][] splits = {{10, 20, 30}, {40, 50, 60}, {12, 26, 38}, {70, 80, 90}};
        for (int bits = 0; bits < 4; bits++) {
            int runner = w.runner(0, 2);
            w.branches(runner, bits);
            w.start(runner, 0);
            w.punch(runner, bits % 2 == 0 ? 0 : 3, splits[bits][0]);
            w.punch(runner, bits < 2 ? 1 : 4, splits[bits][0] + splits[bits][1]);
            w.finish(runner, splits[bits][0] + splits[bits][1] + splits[bits][2]);
        }
        // Controls 1 and 4 are in one cell, 0 and 3 are not.
        CHECK.due("to control 0", 10, () -> w.reference(2, 0));
        CHECK.due("to control 3", 40, () -> w.reference(3, 0));
        CHECK.due("from control 0", 20, () -> w.reference(2, 1));
        CHECK.due("from control 3", 50, () -> w.reference(1, 1));
        CHECK.due("to the finish, all", 34, () -> w.reference(3, 2));
    }

    private static void pace() {
        ControlWood w = wood();
        run(w, 0, 0, 100, 0, 10, 1, 30, 2, 60);
        run(w, 0, 0, 157, 0, 13, 1, 43, 2, 107);
        CHECK.due("the fastest", 1000, () -> w.pace(0));
        // 1300, 1500, 2133, 1250: the lower one of the two in the middle.
        CHECK.due("the lower one", 1300, () -> w.pace(1));
        w.voided(0, 0, true);
        CHECK.due("void legs, too", 1300, () -> w.pace(1));
        w.stolen(1, 0);
        run(w, 0, 0, 117, 0, 17, 2, 37);
        // The reference of leg 2 is that of 20 and 30, of leg 0 that of 10 and 13.
        CHECK.due("references", 25, () -> w.reference(2, 2));
        CHECK.due("references", 11, () -> w.reference(2, 0));
        // 1545, 800, and 80 to 45: 1777.
        CHECK.due("of three legs", 1545, () -> w.pace(2));
        ControlWood z = wood();
        run(z, 0, 0, 10, 0, 0, 1, 0, 2, 10);
        run(z, 0, 0, 30, 0, 5, 1, 10, 2, 30);
        CHECK.due("references of 0 aside", 1000, () -> z.pace(0));
        CHECK.due("references of 0 aside", 2000, () -> z.pace(1));
        ControlWood y = wood();
        run(y, 1, 9, 9);
        CHECK.fails(NO_SUCH, "none left", () -> y.pace(0));
        CHECK.fails(NO_SUCH, "no loss without it", () -> y.loss(0, 0));
        CHECK.due("but a reference", 0, () -> y.reference(0, 0));
    }

    private static void loss() {
        ControlWood w = wood();
        run(w, 0, 0, 100, 0, 10, 1, 30, 2, 60);
        run(w, 0, 0, 157, 0, 13, 1, 43, 2, 107);
        int[] due = {0, 4, 25, 0};
        for (int leg = 0; leg < 4; leg++) {
            int one = leg;
            CHECK.due("on leg " + leg, due[leg], () -> w.loss(1, one));
            CHECK.due("of the fastest", 0, () -> w.loss(0, one));
        }
        w.stolen(1, 0);
        run(w, 0, 0, 117, 0, 17, 2, 37);
        CHECK.fails(NO_SUCH, "no split", () -> w.loss(2, 1));
        // 80 less 1545 times 45, by 1000, which is 69 and a half.
        CHECK.due("cut", 11, () -> w.loss(2, 3));
        ControlWood z = wood();
        run(z, 0, 0, 10, 0, 0, 1, 0, 2, 10);
        run(z, 0, 0, 30, 0, 5, 1, 10, 2, 30);
        CHECK.due("by a reference of 0 all is lost", 5, () -> z.loss(1, 0));
    }

    /** Pace times reference lies above the ints here. */
    private static void lossOfLargeNumbers() {
        ControlWood w = wood();
        int slow = run(w, 0, 0, 99999, 0, 50000, 1, 50001, 2, 50001);
        run(w, 0, 0, 60000, 0, 1, 1, 60000, 2, 60000);
        run(w, 0, 0, 60000, 0, 1, 1, 60000, 2, 60000);
        w.stolen(0, 0);
        CHECK.due("reference", 1, () -> w.reference(slow, 0));
        CHECK.due("reference", 30000, () -> w.reference(slow, 1));
        CHECK.due("pace", 0, () -> w.pace(slow));
        CHECK.due("loss", 50000, () -> w.loss(slow, 0));
        ControlWood z = wood();
        z.course(0);
        z.add(2, 0);
        run(z, 2, 0, 99999, 0, 50000);
        run(z, 2, 0, 99999, 0, 1);
        CHECK.due("reference", 49999, () -> z.reference(0, 1));
        CHECK.due("the lower pace", 1000, () -> z.pace(0));
        z.stolen(0, 0);
        run(z, 2, 0, 99998);
        CHECK.due("reference with it", 74998, () -> z.reference(0, 1));
        CHECK.due("of the excused one", 1333, () -> z.pace(2));
        CHECK.due("and its loss", 99998 - 99972, () -> z.loss(2, 1));
    }

    private static void points() {
        ControlWood w = wood();
        run(w, 1, 0, 100);
        CHECK.due("alone", 1000, () -> w.points(0));
        run(w, 1, 0, 201);
        CHECK.due("of two, cut", 1500, () -> w.points(0));
        CHECK.due("of two, cut", 746, () -> w.points(1));
        run(w, 1, 0, 99);
        run(w, 1, 0, 300);
        // The mean of 99, 100, 201 is 133 and a third.
        CHECK.due("of the best three", 1330, () -> w.points(0));
        CHECK.due("of the best three", 443, () -> w.points(3));
        CHECK.due("of the best three", 1343, () -> w.points(2));
        w.cell(1, 0, 0, 'x');
        w.fix(2, 1, 1);
        CHECK.due("without those disqualified", 2000, () -> w.points(0));
        run(w, 0, 0, 1, 0, 1, 1, 1, 2, 1);
        CHECK.due("without other courses", 2000, () -> w.points(0));
        run(w, 1, 5, 5);
        CHECK.fails(NO_SUCH, "the time is 0", () -> w.points(5));
        CHECK.due("with a time of 0", 1000, () -> w.points(0));
        CHECK.fails(NO_SUCH, "not 'o'", () -> w.points(2));
    }

    private static void pointsBelowZero() {
        ControlWood w = wood();
        run(w, 1, 0, 10);
        run(w, 1, 0, 10);
        w.rule(0, 17);
        CHECK.due("time", -7, () -> w.time(0));
        CHECK.due("of 3 by 2, cut, and -7, cut", -142, () -> w.points(0));
        w.rule(1, 6);
        CHECK.due("of -3 by 2, cut to -1", 142, () -> w.points(0));
        CHECK.due("of -1 and 4", -250, () -> w.points(1));
        w.rule(0, 10);
        CHECK.fails(NO_SUCH, "0 by a ruling", () -> w.points(0));
    }

    private static void wrongNumbers() {
        ControlWood w = wood();
        run(w, 0, 0, 100, 0, 10, 1, 30, 2, 60);
        w.runner(0, 0);
        int[] wrong = {2, -1, 12, Integer.MAX_VALUE, Integer.MIN_VALUE};
        for (int runner : wrong) {
            CHECK.fails(INDEX, "state of " + runner, () -> w.state(runner));
            CHECK.fails(INDEX, "time of " + runner, () -> w.time(runner));
            CHECK.fails(INDEX, "split of " + runner, () -> w.split(runner, 0));
            CHECK.fails(INDEX, "place of " + runner, () -> w.place(runner));
            CHECK.fails(INDEX, "reference of " + runner, () -> w.reference(runner, 0));
            CHECK.fails(INDEX, "pace of " + runner, () -> w.pace(runner));
            CHECK.fails(INDEX, "loss of " + runner, () -> w.loss(runner, 0));
            CHECK.fails(INDEX, "points of " + runner, () -> w.points(runner));
        }
        int[] wrongLegs = {4, -1, 9, 10, Integer.MAX_VALUE, Integer.MIN_VALUE};
        for (int leg : wrongLegs) {
            for (int i = 0; i < 2; i++) {
                int runner = i;
                CHECK.fails(INDEX, "split of leg " + leg, () -> w.split(runner, leg));
                CHECK.fails(INDEX, "reference of leg " + leg, () -> w.reference(runner, leg));
                CHECK.fails(INDEX, "loss on leg " + leg, () -> w.loss(runner, leg));
            }
        }
    }
}
