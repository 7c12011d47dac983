/** The boundary cases of promises 20 to 25 and of the paragraph on punches and rulings. */
public final class EdgePunchTest {
    private static final Check CHECK = new Check();
    private static final int MOST = Integer.MAX_VALUE;
    /** Controls 0 to 3, course 0 with all of them, course 1 with none; runner 0 on course 0 starts at 100. */
    private static final Edge STARTED = new Edge(CHECK, RunnerTest::wood).with(w -> w.runner(0, 0)).with(w -> w.start(0, 100));
    private static final Edge FINISHED = STARTED.with(w -> w.punch(0, 0, 150)).with(w -> w.finish(0, 200));
    /** 12 controls, course 0 with nine of them, 12 runners with starts at 100. */
    private static final Edge FULL = new Edge(CHECK, ControlWood::new).with(EdgePunchTest::full);

    public static void main(String[] args) {
        promise20Numbers();
        promise20Seconds();
        promise20Most();
        promise20Dead();
        promise20NotOnTheWay();
        promise20Order();
        promise20StartAbove();
        promise21();
        promise21Refused();
        promise22Ranges();
        promise22Counts();
        promise22InPlace();
        promise23();
        promise24();
        promise25();
        promise25Order();
        CHECK.end();
    }

    private static void full(ControlWood w) {
        w.course(0);
        for (int i = 0; i < 12; i++) {
            w.control(i, i % 4, i);
        }
        for (int i = 0; i < 9; i++) {
            w.add(0, i);
        }
        for (int i = 0; i < 12; i++) {
            w.runner(i % 10, 0);
            w.start(i, 100);
        }
    }

    private static void promise20Numbers() {
        FULL.due("20: the first runner and control", 1, w -> w.punch(0, 0, 100));
        FULL.due("20: the last runner and control", 1, w -> w.punch(11, 11, 100));
        FULL.refusedOutside("20: runner", Edge.INDEX, 0, 11, (w, runner) -> w.punch(runner, 0, 100));
        FULL.refusedOutside("20: control", Edge.INDEX, 0, 11, (w, control) -> w.punch(0, control, 100));
        STARTED.refusedOutside("20: control of four", Edge.INDEX, 0, 3, (w, control) -> w.punch(0, control, 100));
        FULL.with(w -> w.punch(10, 0, 100)).due("20: each has punches of one's own", 1, w -> w.punch(11, 0, 100));
    }

    private static void promise20Seconds() {
        STARTED.due("20: at the start", 1, w -> w.punch(0, 0, 100));
        STARTED.refused("20: less than the start", Edge.ARGUMENT, w -> w.punch(0, 0, 99));
        STARTED.refused("20: far less", Edge.ARGUMENT, w -> w.punch(0, 0, Integer.MIN_VALUE));
        STARTED.due("20: the last second", 1, w -> w.punch(0, 0, 99999));
        STARTED.refused("20: above it", Edge.ARGUMENT, w -> w.punch(0, 0, 100000));
        STARTED.refused("20: far above it", Edge.ARGUMENT, w -> w.punch(0, 0, MOST));
        Edge punched = STARTED.with(w -> w.punch(0, 0, 150));
        punched.due("20: as the one ahead", 2, w -> w.punch(0, 1, 150));
        punched.due("20: the same once more", 2, w -> w.punch(0, 0, 150));
        punched.refused("20: less than the one ahead", Edge.ARGUMENT, w -> w.punch(0, 1, 149));
        Edge two = punched.with(w -> w.punch(0, 0, 160));
        two.refused("20: less than the last one", Edge.ARGUMENT, w -> w.punch(0, 1, 159));
        Edge early = STARTED.with(w -> w.start(0, 0));
        early.due("20: at 0", 1, w -> w.punch(0, 0, 0));
        early.refused("20: below 0", Edge.ARGUMENT, w -> w.punch(0, 0, -1));
        Edge late = STARTED.with(w -> w.start(0, 99999));
        late.due("20: at the last start", 1, w -> w.punch(0, 0, 99999));
        late.refused("20: ahead of the last start", Edge.ARGUMENT, w -> w.punch(0, 0, 99998));
        Edge ruledLater = STARTED.with(w -> w.rule(0, 200));
        ruledLater.due("20: the start that was told is meant", 1, w -> w.punch(0, 0, 100));
        Edge ruledEarlier = STARTED.with(w -> w.rule(0, 50));
        ruledEarlier.refused("20: the start that was told is meant", Edge.ARGUMENT, w -> w.punch(0, 0, 99));
    }

    private static void promise20Most() {
        Edge nineteen = STARTED.with(w -> punches(w, 19));
        nineteen.due("20: the twentieth", 20, w -> w.punch(0, 3, 100));
        Edge twenty = STARTED.with(w -> punches(w, 20));
        twenty.refused("20: 20 are kept", Edge.STATE, w -> w.punch(0, 3, 100));
        twenty.refused("20: 20 are kept, a later one", Edge.STATE, w -> w.punch(0, 2, 101));
        twenty.due("20: they are as many as are kept", 20, w -> w.dead(0, 0, MOST));
        twenty.with(w -> w.runner(0, 0)).with(w -> w.start(1, 0)).due("20: of another there are none", 1, w -> w.punch(1, 0, 0));
        Edge lost = STARTED.with(w -> w.dead(0, 0, MOST)).with(w -> punches(w, 25));
        lost.due("20: those not kept do not count", 1, w -> w.punch(0, 1, 100));
        lost.due("20: those not kept do not count", 0, w -> w.punch(0, 0, 100));
        Edge deadNow = twenty.with(w -> w.dead(1, 0, MOST));
        deadNow.refused("20: 20 are kept, and the control is dead", Edge.STATE, w -> w.punch(0, 1, 100));
    }

    private static void punches(ControlWood w, int count) {
        for (int i = 0; i < count; i++) {
            w.punch(0, 0, 100);
        }
    }

    private static void promise20Dead() {
        Edge dead = STARTED.with(w -> w.dead(1, 120, 130));
        dead.due("20: a second ahead it is kept", 1, w -> w.punch(0, 1, 119));
        dead.due("20: from then on not", 0, w -> w.punch(0, 1, 120));
        dead.due("20: nor between", 0, w -> w.punch(0, 1, 125));
        dead.due("20: up to then not", 0, w -> w.punch(0, 1, 130));
        dead.due("20: a second behind it is kept", 1, w -> w.punch(0, 1, 131));
        dead.due("20: another control keeps it", 1, w -> w.punch(0, 0, 125));
        Edge lost = dead.with(w -> w.punch(0, 1, 130));
        lost.due("20: the last that is kept counts, here none", 1, w -> w.punch(0, 1, 100));
        lost.refused("20: but the start counts", Edge.ARGUMENT, w -> w.punch(0, 1, 99));
        Edge kept = dead.with(w -> w.punch(0, 0, 110)).with(w -> w.punch(0, 1, 130));
        kept.due("20: the last that is kept counts", 2, w -> w.punch(0, 1, 110));
        kept.refused("20: the last that is kept counts", Edge.ARGUMENT, w -> w.punch(0, 1, 109));
        dead.refused("20: dead and too early", Edge.ARGUMENT, w -> w.punch(0, 1, 99));
        STARTED.with(w -> w.dead(1, 0, MOST)).refused("20: dead and too late", Edge.ARGUMENT, w -> w.punch(0, 1, 100000));
        lost.due("20: what is not kept is in no sum", 7L, w -> w.checksum());
    }

    private static void promise20NotOnTheWay() {
        Edge none = STARTED.with(w -> w.runner(0, 0));
        none.refused("20: no start", Edge.UNSUPPORTED, w -> w.punch(1, 0, 100));
        FINISHED.refused("20: has finished", Edge.UNSUPPORTED, w -> w.punch(0, 0, 200));
        FINISHED.refused("20: has finished, later than that", Edge.UNSUPPORTED, w -> w.punch(0, 0, 201));
        FINISHED.refused("20: has finished, ahead of that", Edge.UNSUPPORTED, w -> w.punch(0, 0, 160));
        Edge dead = FINISHED.with(w -> w.dead(0, 0, MOST));
        dead.refused("20: has finished, and the control is dead", Edge.UNSUPPORTED, w -> w.punch(0, 0, 200));
    }

    private static void promise20Order() {
        Edge none = STARTED.with(w -> w.runner(0, 0));
        Edge twenty = STARTED.with(w -> punches(w, 20));
        Edge done = twenty.with(w -> w.finish(0, 200));
        none.refused("20: no such control ahead of no start", Edge.INDEX, w -> w.punch(1, 4, 100));
        none.refused("20: no such runner, no such control", Edge.INDEX, w -> w.punch(2, 4, 100));
        FINISHED.refused("20: no such control ahead of the finish", Edge.INDEX, w -> w.punch(0, -1, 200));
        STARTED.refused("20: no such runner ahead of the seconds", Edge.INDEX, w -> w.punch(1, 0, 100000));
        STARTED.refused("20: no such control ahead of the seconds", Edge.INDEX, w -> w.punch(0, 4, 99));
        twenty.refused("20: no such control ahead of the 20", Edge.INDEX, w -> w.punch(0, 4, 100));
        none.refused("20: no start ahead of the seconds", Edge.UNSUPPORTED, w -> w.punch(1, 0, 100000));
        none.refused("20: no start ahead of the seconds", Edge.UNSUPPORTED, w -> w.punch(1, 0, -1));
        FINISHED.refused("20: the finish ahead of the seconds", Edge.UNSUPPORTED, w -> w.punch(0, 0, 99));
        FINISHED.refused("20: the finish ahead of the seconds", Edge.UNSUPPORTED, w -> w.punch(0, 0, 100000));
        done.refused("20: the finish ahead of the 20", Edge.UNSUPPORTED, w -> w.punch(0, 0, 200));
        twenty.refused("20: the seconds ahead of the 20", Edge.ARGUMENT, w -> w.punch(0, 0, 99));
        twenty.refused("20: the seconds ahead of the 20", Edge.ARGUMENT, w -> w.punch(0, 0, 100000));
    }

    /** A chase can start somebody above 99999, where no punch and no finish can be. */
    private static void promise20StartAbove() {
        Edge chased = new Edge(CHECK, RunnerTest::wood).with(w -> {
            w.runner(0, 1);
            w.runner(0, 1);
            w.start(0, 0);
            w.finish(0, 0);
            w.start(1, 0);
            w.finish(1, 99999);
            w.chase(1, 0, 1);
        });
        chased.due("39: above 99999", 100000, w -> w.startOf(3));
        chased.refused("20: less than such a start", Edge.ARGUMENT, w -> w.punch(3, 0, 99999));
        chased.refused("20: at such a start, above 99999", Edge.ARGUMENT, w -> w.punch(3, 0, 100000));
        chased.refused("21: less than such a start", Edge.ARGUMENT, w -> w.finish(3, 99999));
        chased.refused("21: at such a start, above 99999", Edge.ARGUMENT, w -> w.finish(3, 100000));
        chased.due("17: such a start can be told anew", 100000, w -> w.start(3, 99999));
        chased.due("25: such a start counts", 100000, w -> w.rule(3, 99999));
        chased.refused("25: but none can be ruled", Edge.ARGUMENT, w -> w.rule(3, 100000));
        chased.due("26: without a finish", 'r', w -> w.state(3));
    }

    private static void promise21() {
        STARTED.due("21: at the start", 0, w -> w.finish(0, 100));
        STARTED.refused("21: less than the start", Edge.ARGUMENT, w -> w.finish(0, 99));
        STARTED.refused("21: far less", Edge.ARGUMENT, w -> w.finish(0, Integer.MIN_VALUE));
        STARTED.due("21: the last second", 99899, w -> w.finish(0, 99999));
        STARTED.refused("21: above it", Edge.ARGUMENT, w -> w.finish(0, 100000));
        STARTED.refused("21: far above it", Edge.ARGUMENT, w -> w.finish(0, MOST));
        Edge punched = STARTED.with(w -> w.punch(0, 0, 150));
        punched.due("21: with the last punch", 50, w -> w.finish(0, 150));
        punched.refused("21: less than the last punch", Edge.ARGUMENT, w -> w.finish(0, 149));
        Edge early = STARTED.with(w -> w.start(0, 0));
        early.due("21: at 0", 0, w -> w.finish(0, 0));
        early.due("21: the most there can be", 99999, w -> w.finish(0, 99999));
        early.refused("21: below 0", Edge.ARGUMENT, w -> w.finish(0, -1));
        Edge lost = punched.with(w -> w.dead(1, 0, MOST)).with(w -> w.punch(0, 1, 300));
        lost.due("21: the last punch kept", 50, w -> w.finish(0, 150));
        lost.refused("21: the last punch kept", Edge.ARGUMENT, w -> w.finish(0, 149));
        STARTED.with(w -> w.rule(0, 0)).due("21: since the start that was told", 10, w -> w.finish(0, 110));
        STARTED.with(w -> w.rule(0, 200)).due("21: since the start that was told", 0, w -> w.finish(0, 100));
        STARTED.with(w -> w.rule(0, 0)).refused("21: less than that", Edge.ARGUMENT, w -> w.finish(0, 99));
        STARTED.with(w -> punches(w, 20)).due("21: with 20 punches", 0, w -> w.finish(0, 100));
        FULL.due("21: the last runner", 0, w -> w.finish(11, 100));
    }

    private static void promise21Refused() {
        Edge none = STARTED.with(w -> w.runner(0, 0));
        FULL.refusedOutside("21: runner", Edge.INDEX, 0, 11, (w, runner) -> w.finish(runner, 100));
        none.refused("21: no start", Edge.UNSUPPORTED, w -> w.finish(1, 100));
        FINISHED.refused("21: a finish is told once", Edge.UNSUPPORTED, w -> w.finish(0, 200));
        FINISHED.refused("21: a finish is told once", Edge.UNSUPPORTED, w -> w.finish(0, 300));
        STARTED.refused("21: no such runner ahead of the seconds", Edge.INDEX, w -> w.finish(1, 100000));
        STARTED.refused("21: no such runner ahead of the seconds", Edge.INDEX, w -> w.finish(-1, -1));
        none.refused("21: no start ahead of the seconds", Edge.UNSUPPORTED, w -> w.finish(1, 100000));
        none.refused("21: no start ahead of the seconds", Edge.UNSUPPORTED, w -> w.finish(1, -1));
        FINISHED.refused("21: the finish ahead of the seconds", Edge.UNSUPPORTED, w -> w.finish(0, 99));
        FINISHED.refused("21: the finish ahead of the seconds", Edge.UNSUPPORTED, w -> w.finish(0, 100000));
        Edge zero = STARTED.with(w -> w.start(0, 0)).with(w -> w.finish(0, 0));
        zero.refused("21: once, also at 0", Edge.UNSUPPORTED, w -> w.finish(0, 0));
    }

    private static void promise22Ranges() {
        FULL.due("22: the first control", 0, w -> w.dead(0, 0, 0));
        FULL.due("22: the last control", 0, w -> w.dead(11, 0, 0));
        FULL.refusedOutside("22: control", Edge.INDEX, 0, 11, (w, control) -> w.dead(control, 0, 0));
        STARTED.due("22: all seconds there are", 0, w -> w.dead(0, 0, MOST));
        STARTED.due("22: the last of them", 0, w -> w.dead(0, MOST, MOST));
        STARTED.refused("22: the first one below 0", Edge.ARGUMENT, w -> w.dead(0, -1, 0));
        STARTED.refused("22: the first one far below 0", Edge.ARGUMENT, w -> w.dead(0, Integer.MIN_VALUE, MOST));
        STARTED.refused("22: the last one below 0", Edge.ARGUMENT, w -> w.dead(0, 0, -1));
        STARTED.refused("22: both below 0", Edge.ARGUMENT, w -> w.dead(0, -1, -1));
        STARTED.due("22: the last one not less", 0, w -> w.dead(0, 10, 10));
        STARTED.refused("22: the last one less", Edge.ARGUMENT, w -> w.dead(0, 10, 9));
        STARTED.refused("22: the last one far less", Edge.ARGUMENT, w -> w.dead(0, MOST, Integer.MIN_VALUE));
        Edge dead = STARTED.with(w -> w.dead(0, 5, 10));
        dead.refused("22: a refused one leaves the one told", Edge.ARGUMENT, w -> w.dead(0, 7, 6));
        dead.refused("22: a refused one leaves the one told", Edge.ARGUMENT, w -> w.dead(0, -1, 6));
        STARTED.refused("22: no such control ahead of the numbers", Edge.INDEX, w -> w.dead(4, -1, 0));
        STARTED.refused("22: no such control ahead of the numbers", Edge.INDEX, w -> w.dead(-1, 10, 9));
    }

    private static void promise22Counts() {
        Edge punched = STARTED.with(w -> {
            w.punch(0, 1, 120);
            w.punch(0, 1, 130);
            w.punch(0, 1, 130);
            w.punch(0, 2, 130);
            w.punch(0, 1, 140);
        });
        punched.due("22: none", 0, w -> w.dead(1, 0, 119));
        punched.due("22: the last second is in it", 1, w -> w.dead(1, 0, 120));
        punched.due("22: the first second is in it", 1, w -> w.dead(1, 140, 200));
        punched.due("22: none behind", 0, w -> w.dead(1, 141, MOST));
        punched.due("22: none between", 0, w -> w.dead(1, 121, 129));
        punched.due("22: two at once", 2, w -> w.dead(1, 130, 130));
        punched.due("22: all of them, of this control", 4, w -> w.dead(1, 120, 140));
        punched.due("22: of another control", 1, w -> w.dead(2, 0, MOST));
        punched.due("22: of one without any", 0, w -> w.dead(0, 0, MOST));
        Edge told = punched.with(w -> w.dead(1, 0, MOST));
        told.due("22: they stay", 4, w -> w.dead(1, 0, MOST));
        long sum = punched(1, 120, 1, 130, 1, 130, 2, 130, 1, 140);
        told.due("22: they stay", sum, w -> w.checksum());
        told.due("22: they stay the last ones", 6, w -> w.punch(0, 0, 140));
        punched.with(w -> w.finish(0, 140)).due("22: of one who has finished", 4, w -> w.dead(1, 0, MOST));
        Edge all = FULL.with(w -> {
            for (int i = 0; i < 12; i++) {
                for (int k = 0; k < 20; k++) {
                    w.punch(i, 11, 100);
                }
            }
        });
        all.due("22: all that can be kept", 240, w -> w.dead(11, 100, 100));
        all.due("22: none of them", 0, w -> w.dead(11, 101, 101));
        all.due("22: none of them", 0, w -> w.dead(11, 99, 99));
    }

    private static long punched(int... numbers) {
        long sum = 7;
        for (int number : numbers) {
            sum = 31 * sum + number;
        }
        return sum;
    }

    private static void promise22InPlace() {
        Edge anew = STARTED.with(w -> w.dead(1, 110, 120)).with(w -> w.dead(1, 130, 140));
        anew.due("22: in place of what was told", 1, w -> w.punch(0, 1, 115));
        anew.due("22: as told last", 0, w -> w.punch(0, 1, 135));
        STARTED.due("22: never dead at first, at the start", 1, w -> w.punch(0, 1, 100));
        Edge zero = STARTED.with(w -> w.start(0, 0));
        zero.due("22: never dead at first, at 0", 1, w -> w.punch(0, 1, 0));
        zero.with(w -> w.dead(1, 0, 0)).due("22: dead at 0", 0, w -> w.punch(0, 1, 0));
        zero.with(w -> w.dead(1, 0, 0)).due("22: not at 1", 1, w -> w.punch(0, 1, 1));
        Edge last = STARTED.with(w -> w.dead(1, 99999, 99999));
        last.due("22: dead at 99999", 0, w -> w.punch(0, 1, 99999));
        last.due("22: not at 99998", 1, w -> w.punch(0, 1, 99998));
    }

    private static void promise23() {
        FULL.due("23: the first control, never", -1, w -> w.stolen(0, -1));
        FULL.due("23: the last control, never", -1, w -> w.stolen(11, 0));
        FULL.refusedOutside("23: control", Edge.INDEX, 0, 11, (w, control) -> w.stolen(control, 0));
        STARTED.refused("23: below -1", Edge.ARGUMENT, w -> w.stolen(0, -2));
        STARTED.refused("23: far below -1", Edge.ARGUMENT, w -> w.stolen(0, Integer.MIN_VALUE));
        Edge zero = STARTED.with(w -> w.stolen(0, 0));
        zero.due("23: from 0 on", 0, w -> w.stolen(0, 5));
        zero.due("23: another never", -1, w -> w.stolen(1, 5));
        zero.refused("23: a refused one leaves the one told", Edge.ARGUMENT, w -> w.stolen(0, -2));
        zero.with(w -> w.stolen(0, -1)).due("23: never again", -1, w -> w.stolen(0, 5));
        STARTED.with(w -> w.stolen(0, MOST)).due("23: the last second there is", MOST, w -> w.stolen(0, -1));
        STARTED.refused("23: no such control ahead of the seconds", Edge.INDEX, w -> w.stolen(4, -2));
        STARTED.refused("23: no such control ahead of the seconds", Edge.INDEX, w -> w.stolen(-1, -2));
        new Edge(CHECK, ControlWood::new).refused("23: there is none yet", Edge.INDEX, w -> w.stolen(0, 0));
    }

    private static void promise24() {
        FULL.due("24: the first leg", false, w -> w.voided(0, 0, true));
        FULL.due("24: the last leg of ten", false, w -> w.voided(0, 9, true));
        FULL.refusedOutside("24: leg of ten", Edge.INDEX, 0, 9, (w, leg) -> w.voided(0, leg, true));
        STARTED.refusedOutside("24: leg of five", Edge.INDEX, 0, 4, (w, leg) -> w.voided(0, leg, true));
        STARTED.refusedOutside("24: leg of one", Edge.INDEX, 0, 0, (w, leg) -> w.voided(1, leg, true));
        STARTED.refusedOutside("24: course", Edge.INDEX, 0, 1, (w, course) -> w.voided(course, 0, true));
        STARTED.due("24: no longer what it was not", false, w -> w.voided(0, 4, false));
        Edge voided = STARTED.with(w -> w.voided(0, 4, true));
        voided.due("24: it was", true, w -> w.voided(0, 4, true));
        voided.due("24: no longer", true, w -> w.voided(0, 4, false));
        voided.with(w -> w.voided(0, 4, false)).due("24: it was not", false, w -> w.voided(0, 4, true));
        voided.due("24: the one ahead is not", false, w -> w.voided(0, 3, true));
        voided.due("24: that of another course is not", false, w -> w.voided(1, 0, true));
        new Edge(CHECK, ControlWood::new).refused("24: no course yet", Edge.INDEX, w -> w.voided(0, 0, true));
    }

    private static void promise25() {
        STARTED.due("25: the start that was told counts", 100, w -> w.rule(0, -1));
        STARTED.with(w -> w.rule(0, 0)).due("25: 0 counts", 0, w -> w.rule(0, -1));
        STARTED.with(w -> w.rule(0, 99999)).due("25: 99999 counts", 99999, w -> w.rule(0, 0));
        Edge back = STARTED.with(w -> w.rule(0, 5)).with(w -> w.rule(0, -1));
        back.due("25: the one that was told again", 100, w -> w.rule(0, 0));
        STARTED.refused("25: below -1", Edge.ARGUMENT, w -> w.rule(0, -2));
        STARTED.refused("25: far below -1", Edge.ARGUMENT, w -> w.rule(0, Integer.MIN_VALUE));
        STARTED.refused("25: above 99999", Edge.ARGUMENT, w -> w.rule(0, 100000));
        STARTED.refused("25: far above 99999", Edge.ARGUMENT, w -> w.rule(0, MOST));
        Edge ruled = STARTED.with(w -> w.rule(0, 5));
        ruled.refused("25: a refused one leaves the one ruled", Edge.ARGUMENT, w -> w.rule(0, 100000));
        FULL.due("25: the last runner", 100, w -> w.rule(11, 0));
        FULL.with(w -> w.rule(11, 0)).due("25: of another the one told", 100, w -> w.rule(10, 0));
        FULL.refusedOutside("25: runner", Edge.INDEX, 0, 11, (w, runner) -> w.rule(runner, 0));
        FINISHED.due("25: with a finish", 100, w -> w.rule(0, 0));
        FINISHED.with(w -> w.rule(0, -1)).due("25: as it was", 100, w -> w.rule(0, -1));
    }

    private static void promise25Order() {
        Edge none = STARTED.with(w -> w.runner(0, 0));
        none.refused("25: there is no start", Edge.UNSUPPORTED, w -> w.rule(1, 0));
        none.refused("25: there is no start, and none is ruled", Edge.UNSUPPORTED, w -> w.rule(1, -1));
        none.refused("25: no start ahead of the seconds", Edge.UNSUPPORTED, w -> w.rule(1, -2));
        none.refused("25: no start ahead of the seconds", Edge.UNSUPPORTED, w -> w.rule(1, 100000));
        none.refused("25: no such runner ahead of the seconds", Edge.INDEX, w -> w.rule(2, -2));
        none.refused("25: no such runner ahead of the seconds", Edge.INDEX, w -> w.rule(-1, 100000));
        Edge below = new Edge(CHECK, RunnerTest::wood).with(w -> {
            w.runner(0, 1);
            w.start(0, 0);
            w.finish(0, 0);
            w.rule(0, 99999);
        });
        below.due("25: times may be below 0 by that", -99999, w -> w.time(0));
    }
}
