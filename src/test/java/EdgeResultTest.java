import java.util.function.Consumer;

/** The boundary cases of promises 26 to 33 and of the paragraphs on results and losses. */
public final class EdgeResultTest {
    private static final Check CHECK = new Check();
    private static final int MOST = Integer.MAX_VALUE;
    /** Controls 0 to 3; course 0 with 0, 1, 2; course 1 with none. */
    private static final Edge WOOD = new Edge(CHECK, ResultTest::wood);
    /** 12 controls; course 0 with the controls 0 to 8, ten legs; course 1 with none. */
    private static final Edge NINE = new Edge(CHECK, ControlWood::new).with(EdgeResultTest::nine);
    /** 12 runners on course 1 of WOOD, number i with a time of 10 times i plus 10. */
    private static final Edge TWELVE = WOOD.with(w -> times(w, 10, 20, 30, 40, 50, 60, 70, 80, 90, 100, 110, 120));

    public static void main(String[] args) {
        promise26();
        promise26Order();
        promise26Found();
        promise26Excused();
        promise26ExcusedByTheFinish();
        promise26OutOfBounds();
        promise27();
        promise27VoidLegs();
        promise28();
        promise28Excused();
        promise29();
        promise30();
        promise30Halves();
        promise30Cells();
        promise31();
        promise31ReferencesOfNothing();
        promise32();
        promise32Large();
        promise33();
        promise33BestThree();
        wrongNumbers();
        notOk();
        CHECK.end();
    }

    private static void nine(ControlWood w) {
        w.course(24);
        w.course(20);
        for (int i = 0; i < 12; i++) {
            w.control(i, i % 4, i);
        }
        for (int i = 0; i < 9; i++) {
            w.add(0, i);
        }
    }

    private static void times(ControlWood w, int... times) {
        for (int time : times) {
            ResultTest.run(w, 1, 0, time);
        }
    }

    /** A run from 0 on over the controls 0 to 8, punched at these seconds, the last ones those of the finish. */
    private static Consumer<ControlWood> ten(int... seconds) {
        return w -> {
            int[] punches = new int[18];
            for (int i = 0; i < 9; i++) {
                punches[2 * i] = i;
                punches[2 * i + 1] = seconds[i];
            }
            ResultTest.run(w, 0, 0, seconds[9], punches);
        };
    }

    private static Consumer<ControlWood> run(int course, int start, int finish, int... punches) {
        return w -> ResultTest.run(w, course, start, finish, punches);
    }

    private static void promise26() {
        Edge entered = WOOD.with(w -> w.runner(0, 1));
        entered.due("26: without a start", 'n', w -> w.state(0));
        Edge started = entered.with(w -> w.start(0, 0));
        started.due("26: without a finish", 'r', w -> w.state(0));
        started.with(w -> w.finish(0, 0)).due("26: with a finish at once", 'o', w -> w.state(0));
        Edge drawn = entered.with(w -> w.draw(1, 0, 0, 0));
        drawn.due("26: with a start that was drawn", 'r', w -> w.state(0));
        Edge running = WOOD.with(w -> {
            w.runner(0, 0);
            w.start(0, 0);
            w.punch(0, 0, 1);
            w.punch(0, 1, 2);
            w.punch(0, 2, 3);
        });
        running.due("26: all punched, without a finish", 'r', w -> w.state(0));
        running.with(w -> w.finish(0, 3)).due("26: finish with the last punch", 'o', w -> w.state(0));
        TWELVE.due("26: the last runner", 'o', w -> w.state(11));
    }

    private static void promise26Order() {
        Edge shut = WOOD.with(w -> w.cell(0, 0, 0, 'x')).with(w -> w.runner(0, 0)).with(w -> w.fix(0, 0, 0));
        shut.due("26: 'n' ahead of 'x'", 'n', w -> w.state(0));
        Edge started = shut.with(w -> w.start(0, 0));
        started.due("26: 'r' ahead of 'x'", 'r', w -> w.state(0));
        started.with(w -> w.finish(0, 0)).due("26: 'x' ahead of 'm'", 'x', w -> w.state(0));
        WOOD.with(run(0, 0, 0)).due("26: 'm'", 'm', w -> w.state(0));
    }

    private static void promise26Found() {
        WOOD.with(run(0, 5, 5, 0, 5, 1, 5, 2, 5)).due("26: all in one second, in order", 'o', w -> w.state(0));
        WOOD.with(run(0, 5, 5, 1, 5, 0, 5, 2, 5)).due("26: in one second, not in order", 'm', w -> w.state(0));
        WOOD.with(run(0, 5, 5, 0, 5, 2, 5, 1, 5)).due("26: in one second, the last ahead", 'm', w -> w.state(0));
        WOOD.with(run(0, 0, 9, 1, 2, 2, 3)).due("26: the first is missing", 'm', w -> w.state(0));
        WOOD.with(run(0, 0, 9, 0, 1, 2, 3)).due("26: the second is missing", 'm', w -> w.state(0));
        WOOD.with(run(0, 0, 9, 0, 1, 1, 2)).due("26: the last is missing", 'm', w -> w.state(0));
        WOOD.with(run(0, 0, 9)).due("26: all are missing", 'm', w -> w.state(0));
        WOOD.with(run(1, 0, 9)).due("26: none to be had", 'o', w -> w.state(0));
        Edge many = WOOD.with(w -> {
            w.runner(0, 0);
            w.start(0, 0);
            for (int i = 0; i < 17; i++) {
                w.punch(0, 3, i);
            }
            w.punch(0, 0, 20);
            w.punch(0, 1, 21);
        });
        many.with(w -> w.finish(0, 30)).due("26: 19 punches", 'm', w -> w.state(0));
        Edge twenty = many.with(w -> w.punch(0, 2, 22)).with(w -> w.finish(0, 30));
        twenty.due("26: found by the twentieth punch", 'o', w -> w.state(0));
        twenty.due("28: found by the twentieth punch", 1, w -> w.split(0, 2));
        Edge twice = WOOD.with(w -> w.course(0)).with(w -> w.add(2, 0)).with(w -> w.add(2, 0));
        twice.with(run(2, 0, 9, 0, 5)).due("26: one punch for two", 'm', w -> w.state(0));
        twice.with(run(2, 0, 9, 0, 5, 0, 5)).due("26: two punches for two", 'o', w -> w.state(0));
        NINE.with(ten(1, 2, 3, 4, 5, 6, 7, 8, 9, 10)).due("26: nine found", 'o', w -> w.state(0));
        Edge eight = NINE.with(run(0, 0, 9, 0, 1, 1, 1, 2, 1, 3, 1, 4, 1, 5, 1, 6, 1, 7, 1));
        eight.due("26: the ninth is missing", 'm', w -> w.state(0));
        Edge behind = WOOD.with(w -> w.stolen(1, 0)).with(run(0, 0, 90, 2, 5, 0, 10));
        behind.due("26: behind the last found, also with one excused between", 'm', w -> w.state(0));
        Edge lost = WOOD.with(w -> w.dead(1, 0, 99)).with(run(0, 0, 9, 0, 1, 1, 2, 2, 3));
        lost.due("26: one that was not kept is missing", 'm', w -> w.state(0));
    }

    private static void promise26Excused() {
        Edge run = WOOD.with(run(0, 0, 90, 0, 10, 2, 50));
        run.due("26: never stolen", 'm', w -> w.state(0));
        run.with(w -> w.stolen(1, 49)).due("26: stolen earlier than the next found", 'o', w -> w.state(0));
        run.with(w -> w.stolen(1, 50)).due("26: stolen no later than the next found", 'o', w -> w.state(0));
        run.with(w -> w.stolen(1, 51)).due("26: stolen later than the next found", 'm', w -> w.state(0));
        run.with(w -> w.stolen(1, 0)).due("26: stolen from 0 on", 'o', w -> w.state(0));
        run.with(w -> w.stolen(1, MOST)).due("26: stolen at the last second there is", 'm', w -> w.state(0));
        run.with(w -> w.stolen(0, 0)).with(w -> w.stolen(2, 0)).due("26: others were stolen", 'm', w -> w.state(0));
        run.with(w -> w.stolen(1, 5)).with(w -> w.stolen(1, -1)).due("26: never after all", 'm', w -> w.state(0));
        Edge two = WOOD.with(run(0, 0, 90, 2, 50));
        two.with(w -> w.stolen(0, 50)).with(w -> w.stolen(1, 50)).due("26: two ahead of the next found", 'o', w -> w.state(0));
        two.with(w -> w.stolen(0, 51)).with(w -> w.stolen(1, 50)).due("26: the first of them later", 'm', w -> w.state(0));
        two.with(w -> w.stolen(0, 50)).with(w -> w.stolen(1, 51)).due("26: the second of them later", 'm', w -> w.state(0));
        two.with(w -> w.stolen(0, 50)).due("26: one of them never", 'm', w -> w.state(0));
        Edge first = WOOD.with(w -> w.stolen(0, 0)).with(run(0, 0, 0, 1, 0, 2, 0));
        first.due("26: all at second 0", 'o', w -> w.state(0));
        // The next one of the course that was found counts, not the next punch of all.
        Edge other = WOOD.with(w -> w.stolen(1, 40)).with(run(0, 0, 90, 0, 10, 3, 20, 2, 50));
        other.due("26: punches of other controls do not matter", 'o', w -> w.state(0));
    }

    private static void promise26ExcusedByTheFinish() {
        Edge run = WOOD.with(run(0, 0, 90, 0, 10, 1, 50));
        run.with(w -> w.stolen(2, 90)).due("26: stolen no later than the finish", 'o', w -> w.state(0));
        run.with(w -> w.stolen(2, 91)).due("26: stolen later than the finish", 'm', w -> w.state(0));
        Edge none = WOOD.with(w -> w.stolen(0, 90)).with(w -> w.stolen(1, 90)).with(w -> w.stolen(2, 90));
        none.with(run(0, 0, 90)).due("26: all excused by the finish", 'o', w -> w.state(0));
        none.with(run(0, 0, 89)).due("26: none excused by the finish", 'm', w -> w.state(0));
        Edge last = WOOD.with(w -> w.stolen(2, 99999)).with(run(0, 0, 99999, 0, 10, 1, 50));
        last.due("26: stolen and finished at 99999", 'o', w -> w.state(0));
        Edge nine = NINE.with(w -> {
            for (int i = 0; i < 9; i++) {
                w.stolen(i, 7);
            }
        });
        nine.with(run(0, 0, 7)).due("26: all nine excused", 'o', w -> w.state(0));
        nine.with(run(0, 0, 6)).due("26: none of nine excused", 'm', w -> w.state(0));
        nine.with(run(0, 0, 7)).with(w -> w.stolen(8, 8)).due("26: but the last", 'm', w -> w.state(0));
        nine.with(run(0, 0, 7)).with(w -> w.stolen(0, 8)).due("26: but the first", 'm', w -> w.state(0));
    }

    private static void promise26OutOfBounds() {
        for (int i = 0; i < 12; i++) {
            int entered = i;
            Edge tracked = WOOD.with(run(1, 0, 9)).with(w -> {
                for (int k = 0; k < 12; k++) {
                    w.fix(0, k == entered ? 24 : 0, k);
                }
            });
            tracked.due("26: nothing out of bounds", 'o', w -> w.state(0));
            tracked.with(w -> w.cell(24, 0, 0, 'x')).due("26: fix " + i + " out of bounds", 'x', w -> w.state(0));
        }
        Edge track = WOOD.with(run(1, 0, 9)).with(w -> w.fix(0, 11, 0)).with(w -> w.fix(0, 13, 1));
        track.with(w -> w.cell(12, 0, 0, 'x')).due("26: between its fixes it enters nothing", 'o', w -> w.state(0));
        track.with(w -> w.cell(11, 0, 0, 'w')).due("26: water is not out of bounds", 'o', w -> w.state(0));
        track.with(w -> w.show(11, 0, 'x')).due("26: out of bounds on the map alone", 'o', w -> w.state(0));
        Edge out = track.with(w -> w.cell(11, 0, 0, 'x'));
        out.with(w -> w.cell(11, 0, 0, '.')).due("26: no longer out of bounds", 'o', w -> w.state(0));
        Edge later = WOOD.with(w -> w.cell(11, 0, 0, 'x')).with(run(1, 0, 9)).with(w -> w.fix(0, 11, 99));
        later.due("26: behind the finish, too", 'x', w -> w.state(0));
    }

    private static void promise27() {
        WOOD.with(run(1, 5, 5)).due("27: 0", 0, w -> w.time(0));
        WOOD.with(run(1, 0, 99999)).due("27: the most", 99999, w -> w.time(0));
        WOOD.with(run(1, 5, 5)).with(w -> w.rule(0, 6)).due("27: below 0", -1, w -> w.time(0));
        Edge least = WOOD.with(run(1, 0, 99999)).with(w -> w.voided(1, 0, true)).with(w -> w.rule(0, 99999));
        least.due("27: the least", -99999, w -> w.time(0));
        WOOD.with(run(1, 99999, 99999)).with(w -> w.rule(0, 0)).due("27: the most by a ruling", 99999, w -> w.time(0));
        TWELVE.due("27: the last runner", 120, w -> w.time(11));
    }

    private static void promise27VoidLegs() {
        Edge ten = NINE.with(ten(1, 3, 7, 15, 31, 63, 127, 255, 511, 1023));
        ten.due("27: no void leg", 1023, w -> w.time(0));
        for (int i = 0; i < 10; i++) {
            int leg = i;
            ten.with(w -> w.voided(0, leg, true)).due("27: leg " + i + " void", 1023 - (1 << i), w -> w.time(0));
        }
        ten.with(w -> {
            for (int leg = 0; leg < 10; leg++) {
                w.voided(0, leg, true);
            }
        }).due("27: all legs void", 0, w -> w.time(0));
        Edge back = ten.with(w -> w.voided(0, 9, true)).with(w -> w.voided(0, 9, false));
        back.due("27: no longer void", 1023, w -> w.time(0));
        ten.with(w -> w.voided(1, 0, true)).due("27: a void leg of another course", 1023, w -> w.time(0));
        Edge excused = WOOD.with(w -> w.stolen(1, 0)).with(run(0, 0, 100, 0, 10, 2, 60));
        excused.with(w -> w.voided(0, 1, true)).due("27: to an excused control, it has none", 100, w -> w.time(0));
        excused.with(w -> w.voided(0, 2, true)).due("27: from an excused control, nothing", 100, w -> w.time(0));
        excused.with(w -> w.voided(0, 0, true)).due("27: beside it", 90, w -> w.time(0));
        excused.with(w -> w.voided(0, 3, true)).due("27: behind it", 60, w -> w.time(0));
        Edge all = WOOD.with(w -> {
            for (int i = 0; i < 3; i++) {
                w.stolen(i, 0);
            }
            for (int leg = 0; leg < 4; leg++) {
                w.voided(0, leg, true);
            }
        });
        all.with(run(0, 0, 100)).due("27: all excused and all void", 100, w -> w.time(0));
        all.with(run(0, 0, 100, 0, 10)).due("27: all but the first excused, all void", 90, w -> w.time(0));
        all.with(run(0, 0, 100, 2, 10)).due("27: all but the last excused, all void", 10, w -> w.time(0));
    }

    private static void promise28() {
        Edge ten = NINE.with(ten(1, 3, 7, 15, 31, 63, 127, 255, 511, 1023));
        for (int i = 0; i < 10; i++) {
            int leg = i;
            ten.due("28: leg " + i + " of ten", 1 << i, w -> w.split(0, leg));
        }
        ten.refusedOutside("28: leg of ten", Edge.INDEX, 0, 9, (w, leg) -> w.split(0, leg));
        TWELVE.due("28: leg 0 of one", 120, w -> w.split(11, 0));
        TWELVE.refusedOutside("28: leg of one", Edge.INDEX, 0, 0, (w, leg) -> w.split(11, leg));
        WOOD.with(run(1, 7, 7)).due("28: 0", 0, w -> w.split(0, 0));
        WOOD.with(run(1, 0, 99999)).due("28: the most", 99999, w -> w.split(0, 0));
        Edge ruled = WOOD.with(run(1, 7, 17)).with(w -> w.rule(0, 9));
        ruled.due("28: splits begin at the start that was told", 10, w -> w.split(0, 0));
        ten.with(w -> w.voided(0, 9, true)).due("28: a void leg has one", 512, w -> w.split(0, 9));
    }

    private static void promise28Excused() {
        Edge stolen = NINE.with(w -> {
            for (int i = 0; i < 9; i++) {
                w.stolen(i, 0);
            }
        });
        Edge none = stolen.with(run(0, 5, 100));
        for (int i = 0; i < 9; i++) {
            int leg = i;
            none.refused("28: all excused, leg " + i, Edge.NO_SUCH, w -> w.split(0, leg));
        }
        none.due("28: all excused, the last leg from the start", 95, w -> w.split(0, 9));
        Edge first = stolen.with(run(0, 5, 100, 0, 20));
        first.due("28: to the first", 15, w -> w.split(0, 0));
        first.refused("28: to the one behind", Edge.NO_SUCH, w -> w.split(0, 1));
        first.due("28: from the last one found", 80, w -> w.split(0, 9));
        Edge last = stolen.with(run(0, 5, 100, 8, 20));
        last.due("28: to the ninth from the start", 15, w -> w.split(0, 8));
        last.refused("28: to the eighth", Edge.NO_SUCH, w -> w.split(0, 7));
        last.due("28: to the finish", 80, w -> w.split(0, 9));
        none.refused("28: no such leg ahead of none", Edge.INDEX, w -> w.split(0, 10));
    }

    private static void promise29() {
        for (int i = 0; i < 12; i++) {
            int runner = i;
            TWELVE.due("29: place of twelve unlike", i + 1, w -> w.place(runner));
        }
        Edge alike = WOOD.with(w -> times(w, 5, 5, 5, 5, 5, 5, 5, 5, 5, 5, 5, 5));
        alike.due("29: of twelve alike the first", 1, w -> w.place(0));
        alike.due("29: of twelve alike the last", 1, w -> w.place(11));
        Edge behind = WOOD.with(w -> times(w, 6, 5, 5, 5, 5, 5, 5, 5, 5, 5, 5, 5));
        behind.due("29: behind eleven alike", 12, w -> w.place(0));
        behind.due("29: all eleven have the best place", 1, w -> w.place(11));
        Edge pair = WOOD.with(w -> times(w, 4, 5, 5, 6));
        pair.due("29: alike on the second place", 2, w -> w.place(1));
        pair.due("29: alike on the second place", 2, w -> w.place(2));
        pair.due("29: behind them", 4, w -> w.place(3));
        WOOD.with(run(1, 0, 9)).due("29: alone", 1, w -> w.place(0));
        Edge zero = WOOD.with(w -> times(w, 0, 1)).with(w -> w.rule(1, 2));
        zero.due("29: a time below 0 is better than 0", 1, w -> w.place(1));
        zero.due("29: and 0 behind it", 2, w -> w.place(0));
        Edge others = WOOD.with(w -> times(w, 50)).with(run(0, 0, 9, 0, 1, 1, 2, 2, 3)).with(run(0, 0, 3));
        others.due("29: others on another course, one missing", 1, w -> w.place(0));
    }

    private static void promise30() {
        WOOD.with(run(1, 0, 0)).due("30: 0", 0, w -> w.reference(0, 0));
        WOOD.with(run(1, 0, 99999)).due("30: the most", 99999, w -> w.reference(0, 0));
        Edge ten = NINE.with(ten(1, 3, 7, 15, 31, 63, 127, 255, 511, 1023));
        ten.due("30: leg 0 of ten", 1, w -> w.reference(0, 0));
        ten.due("30: leg 9 of ten", 512, w -> w.reference(0, 9));
        ten.refusedOutside("30: leg of ten", Edge.INDEX, 0, 9, (w, leg) -> w.reference(0, leg));
        TWELVE.refusedOutside("30: leg of one", Edge.INDEX, 0, 0, (w, leg) -> w.reference(11, leg));
        Edge excused = WOOD.with(w -> w.stolen(1, 0)).with(run(0, 0, 90, 0, 10, 2, 50));
        excused.refused("30: there is no split of it", Edge.NO_SUCH, w -> w.reference(0, 1));
        excused.due("30: from an excused control", 40, w -> w.reference(0, 2));
        Edge other = excused.with(run(0, 0, 90, 0, 10, 1, 17, 2, 50));
        other.due("30: there is one of another", 7, w -> w.reference(0, 1));
        Edge missing = excused.with(run(0, 0, 90, 0, 10, 1, 17));
        missing.refused("30: of one who is 'm' there is none", Edge.NO_SUCH, w -> w.reference(0, 1));
        excused.refused("30: no such leg ahead of none", Edge.INDEX, w -> w.reference(0, 4));
    }

    private static void promise30Halves() {
        int[] due = {10, 10, 15, 15, 20, 20, 25, 25, 30, 30, 35, 35};
        for (int i = 1; i <= 12; i++) {
            int count = i;
            Edge some = WOOD.with(w -> {
                for (int k = count; k > 0; k--) {
                    ResultTest.run(w, 1, 0, 10 * k);
                }
            });
            some.due("30: the fastest half of " + i, due[i - 1], w -> w.reference(0, 0));
            some.due("30: the fastest half of " + i, due[i - 1], w -> w.reference(count - 1, 0));
        }
        WOOD.with(w -> times(w, 10, 11, 99)).due("30: the mean, cut", 10, w -> w.reference(2, 0));
        WOOD.with(w -> times(w, 10, 12, 99)).due("30: the mean, even", 11, w -> w.reference(2, 0));
        WOOD.with(w -> times(w, 10, 10, 12, 98, 99)).due("30: of three, cut", 10, w -> w.reference(4, 0));
        WOOD.with(w -> times(w, 10, 11, 12, 98, 99)).due("30: of three", 11, w -> w.reference(4, 0));
        Edge voided = WOOD.with(w -> times(w, 10, 20)).with(w -> w.voided(1, 0, true));
        voided.due("30: void legs count, too", 10, w -> w.reference(1, 0));
        Edge most = WOOD.with(w -> {
            for (int i = 0; i < 12; i++) {
                ResultTest.run(w, 1, 0, 99999);
            }
        });
        most.due("30: the most of twelve", 99999, w -> w.reference(11, 0));
    }

    /** On course 2 controls 1 and 4 lie in one cell, control 3 elsewhere. */
    private static void promise30Cells() {
        Edge forked = WOOD.with(w -> {
            w.control(24, 2, 0);
            w.course(0);
            w.add(2, 1);
            w.fork(2, 0, 4);
            w.course(0);
            w.add(3, 1);
            w.fork(3, 0, 3);
        });
        for (int i = 2; i <= 3; i++) {
            int course = i;
            Edge two = forked.with(run(course, 0, 70, 1, 30)).with(w -> {
                int runner = w.runner(0, course);
                w.branches(runner, 1);
                w.start(runner, 0);
                w.punch(runner, course == 2 ? 4 : 3, 10);
                w.finish(runner, 20);
            });
            two.due("30: the same cells at both ends", course == 2 ? 10 : 30, w -> w.reference(0, 0));
            two.due("30: the same cells at both ends", course == 2 ? 10 : 40, w -> w.reference(0, 1));
            two.due("30: of the other branch", 10, w -> w.reference(1, 0));
        }
    }

    private static void promise31() {
        WOOD.with(run(1, 0, 9)).due("31: of one leg, alone", 1000, w -> w.pace(0));
        WOOD.with(w -> times(w, 3, 10)).due("31: of one leg, cut", 3333, w -> w.pace(1));
        WOOD.with(w -> times(w, 1, 99999)).due("31: the most", 99999000, w -> w.pace(1));
        Edge ten = NINE.with(ten(10, 20, 30, 40, 50, 60, 70, 80, 90, 100));
        Edge slow = ten.with(ten(100, 190, 270, 340, 400, 450, 490, 520, 540, 550));
        slow.due("31: of ten legs the lower one in the middle", 5000, w -> w.pace(1));
        Edge excused = NINE.with(w -> w.stolen(0, 0)).with(ten(10, 20, 30, 40, 50, 60, 70, 80, 90, 100));
        Edge nineLegs = excused.with(run(0, 0, 550, 1, 30, 2, 60, 3, 100, 4, 150, 5, 210, 6, 280, 7, 360, 8, 450));
        nineLegs.due("31: of nine legs the one in the middle", 6000, w -> w.pace(1));
        Edge oneLeg = WOOD.with(w -> {
            for (int i = 0; i < 3; i++) {
                w.stolen(i, 0);
            }
        });
        oneLeg.with(run(0, 0, 30)).due("31: of the only leg with a split", 1000, w -> w.pace(0));
        // Leg 0 takes twice, leg 3 three times the reference.
        Edge twoLegs = oneLeg.with(run(0, 0, 20, 0, 10)).with(run(0, 0, 50, 0, 20));
        twoLegs.due("31: of two the lower one", 2000, w -> w.pace(1));
        WOOD.with(run(1, 0, 9)).with(w -> w.voided(1, 0, true)).due("31: of a void leg", 1000, w -> w.pace(0));
    }

    private static void promise31ReferencesOfNothing() {
        WOOD.with(run(1, 9, 9)).refused("31: a reference of 0 aside there is none", Edge.NO_SUCH, w -> w.pace(0));
        Edge slower = WOOD.with(w -> times(w, 0, 9));
        slower.refused("31: a reference of 0 aside, with a split", Edge.NO_SUCH, w -> w.pace(1));
        WOOD.with(w -> times(w, 1, 9)).due("31: a reference of 1", 9000, w -> w.pace(1));
        Edge three = WOOD.with(run(0, 0, 10, 0, 0, 1, 0, 2, 0)).with(run(0, 0, 60, 0, 5, 1, 10, 2, 30));
        three.due("31: three references of 0 aside", 3000, w -> w.pace(1));
        three.due("31: splits of 0 by references of 0", 1000, w -> w.pace(0));
        Edge zero = WOOD.with(run(0, 0, 10, 0, 0, 1, 4, 2, 8)).with(run(0, 0, 10, 0, 3, 1, 3, 2, 6)).with(run(0, 0, 30, 0, 8));
        zero.due("31: a split of 0 by a reference above 0", 0, w -> w.reference(1, 1));
        Edge mean = WOOD.with(w -> w.stolen(1, 0)).with(w -> w.stolen(2, 0)).with(run(0, 0, 9, 0, 0)).with(run(0, 0, 9, 0, 2));
        Edge threeOfIt = mean.with(run(0, 0, 9, 0, 9));
        threeOfIt.due("30: of 0 and 2", 1, w -> w.reference(0, 0));
        threeOfIt.due("31: 0 by 1 is the lower one", 0, w -> w.pace(0));
    }

    private static void promise32() {
        Edge two = WOOD.with(run(0, 0, 40, 0, 10, 1, 20, 2, 30)).with(run(0, 0, 41, 0, 10, 1, 20, 2, 30));
        two.due("32: a second", 1, w -> w.loss(1, 3));
        two.due("32: none", 0, w -> w.loss(1, 0));
        Edge fast = WOOD.with(run(0, 0, 40, 0, 10, 1, 20, 2, 30)).with(run(0, 0, 70, 0, 20, 1, 40, 2, 60));
        fast.due("32: faster than at one's pace, at least 0", 0, w -> w.loss(1, 3));
        fast.due("32: at one's pace", 0, w -> w.loss(1, 0));
        Edge ten = NINE.with(ten(10, 20, 30, 40, 50, 60, 70, 80, 90, 100));
        Edge slow = ten.with(ten(100, 190, 270, 340, 400, 450, 490, 520, 540, 550));
        slow.due("32: leg 0 of ten", 50, w -> w.loss(1, 0));
        slow.due("32: leg 9 of ten", 0, w -> w.loss(1, 9));
        slow.refusedOutside("32: leg of ten", Edge.INDEX, 0, 9, (w, leg) -> w.loss(1, leg));
        // A pace of 3428 makes 119 of the reference of 35, cut; the split is 120.
        TWELVE.due("32: leg 0 of one", 1, w -> w.loss(11, 0));
        TWELVE.refusedOutside("32: leg of one", Edge.INDEX, 0, 0, (w, leg) -> w.loss(11, leg));
        Edge excused = WOOD.with(w -> w.stolen(1, 0)).with(run(0, 0, 90, 0, 10, 2, 50));
        excused.refused("32: no split there", Edge.NO_SUCH, w -> w.loss(0, 1));
        excused.with(run(0, 0, 90, 0, 10, 1, 17, 2, 50)).refused("32: no own split there", Edge.NO_SUCH, w -> w.loss(0, 1));
        excused.due("32: from an excused control", 0, w -> w.loss(0, 2));
        WOOD.with(w -> times(w, 0, 9)).refused("32: no pace", Edge.NO_SUCH, w -> w.loss(1, 0));
        WOOD.with(run(1, 9, 9)).refused("32: no pace", Edge.NO_SUCH, w -> w.loss(0, 0));
        excused.refused("32: no such leg ahead of none", Edge.INDEX, w -> w.loss(0, 4));
        // With references of 10 and a pace of 1150 one's seconds are 11, cut.
        Edge cut = WOOD.with(run(0, 0, 80, 0, 20, 1, 40, 2, 60)).with(run(0, 0, 95, 0, 23, 1, 46, 2, 69));
        cut.due("31: pace", 1150, w -> w.pace(1));
        cut.due("32: even", 3, w -> w.loss(1, 3));
        Edge odd = WOOD.with(run(0, 0, 59, 0, 20, 1, 40, 2, 50)).with(run(0, 0, 92, 0, 23, 1, 46, 2, 61));
        odd.due("32: pace times reference by 1000 is 10 and a half, cut", 31 - 10, w -> w.loss(1, 3));
    }

    /** Pace times reference passes the ints: 100000 times 30000. */
    private static void promise32Large() {
        Edge two = WOOD.with(w -> {
            w.course(0);
            w.add(2, 0);
            w.add(2, 1);
        });
        Edge large = two.with(run(2, 0, 30002, 0, 1, 1, 2)).with(run(2, 0, 30200, 0, 100, 1, 200));
        large.due("31: pace", 100000, w -> w.pace(1));
        large.due("30: reference", 30000, w -> w.reference(1, 2));
        large.due("32: pace times reference passes the ints", 0, w -> w.loss(1, 2));
        large.due("32: as it does not", 0, w -> w.loss(1, 0));
        Edge larger = two.with(run(2, 0, 42952, 0, 1, 1, 2)).with(run(2, 0, 85200, 0, 100, 1, 200));
        larger.due("30: reference", 42950, w -> w.reference(1, 2));
        larger.due("32: it comes back above 0 in ints", 0, w -> w.loss(1, 2));
    }

    private static void promise33() {
        WOOD.with(run(1, 0, 9)).due("33: alone", 1000, w -> w.points(0));
        WOOD.with(run(1, 9, 9)).refused("33: the time is 0", Edge.NO_SUCH, w -> w.points(0));
        WOOD.with(run(1, 9, 10)).due("33: the time is 1", 1000, w -> w.points(0));
        WOOD.with(run(1, 9, 9)).with(w -> w.rule(0, 10)).due("33: the time is -1", 1000, w -> w.points(0));
        WOOD.with(run(1, 0, 9)).with(w -> w.rule(0, 9)).refused("33: 0 by a ruling", Edge.NO_SUCH, w -> w.points(0));
        Edge voided = WOOD.with(run(1, 0, 9)).with(w -> w.voided(1, 0, true));
        voided.refused("33: 0 by a void leg", Edge.NO_SUCH, w -> w.points(0));
        Edge zero = WOOD.with(w -> times(w, 0, 9));
        zero.due("33: with one whose time is 0", 1000 * 4 / 9, w -> w.points(1));
        zero.refused("33: whose time is 0", Edge.NO_SUCH, w -> w.points(0));
        WOOD.with(w -> times(w, 1, 99999, 99999)).due("33: the most", 66666000, w -> w.points(0));
        WOOD.with(w -> times(w, 0, 0, 9)).due("33: the mean, even", 1000 * 3 / 9, w -> w.points(2));
        WOOD.with(w -> times(w, 0, 0, 2)).due("33: the mean, cut to 0", 0, w -> w.points(2));
    }

    private static void promise33BestThree() {
        WOOD.with(w -> times(w, 10, 20)).due("33: of two all", 1500, w -> w.points(0));
        WOOD.with(w -> times(w, 10, 20, 30)).due("33: of three all", 2000, w -> w.points(0));
        WOOD.with(w -> times(w, 10, 20, 30, 40)).due("33: of four the best three", 2000, w -> w.points(0));
        WOOD.with(w -> times(w, 40, 30, 20, 10)).due("33: of four the best three", 500, w -> w.points(0));
        TWELVE.due("33: of twelve the best three", 20000 / 120, w -> w.points(11));
        Edge last = WOOD.with(w -> times(w, 90, 90, 90, 90, 90, 90, 90, 90, 90, 30, 30, 30));
        last.due("33: the last three of twelve", 333, w -> w.points(0));
        Edge others = WOOD.with(w -> times(w, 50)).with(run(0, 0, 9, 0, 1, 1, 2, 2, 3)).with(run(0, 0, 3));
        others.due("33: others on another course, one missing", 1000, w -> w.points(0));
    }

    private static void wrongNumbers() {
        TWELVE.refusedOutside("26: runner", Edge.INDEX, 0, 11, (w, runner) -> w.state(runner));
        TWELVE.refusedOutside("27: runner", Edge.INDEX, 0, 11, (w, runner) -> w.time(runner));
        TWELVE.refusedOutside("28: runner", Edge.INDEX, 0, 11, (w, runner) -> w.split(runner, 0));
        TWELVE.refusedOutside("29: runner", Edge.INDEX, 0, 11, (w, runner) -> w.place(runner));
        TWELVE.refusedOutside("30: runner", Edge.INDEX, 0, 11, (w, runner) -> w.reference(runner, 0));
        TWELVE.refusedOutside("31: runner", Edge.INDEX, 0, 11, (w, runner) -> w.pace(runner));
        TWELVE.refusedOutside("32: runner", Edge.INDEX, 0, 11, (w, runner) -> w.loss(runner, 0));
        TWELVE.refusedOutside("33: runner", Edge.INDEX, 0, 11, (w, runner) -> w.points(runner));
        TWELVE.refused("28: neither runner nor leg", Edge.INDEX, w -> w.split(12, 1));
        TWELVE.refused("30: neither runner nor leg", Edge.INDEX, w -> w.reference(12, -1));
        TWELVE.refused("32: neither runner nor leg", Edge.INDEX, w -> w.loss(-1, -1));
    }

    /** Each way of not being 'o', on course 0 with four legs. */
    private static void notOk() {
        Edge entered = WOOD.with(w -> w.runner(0, 0));
        Edge started = entered.with(w -> w.start(0, 0));
        Edge missing = started.with(w -> w.finish(0, 9));
        Edge out = missing.with(w -> w.cell(0, 0, 0, 'x')).with(w -> w.fix(0, 0, 0));
        Edge[] all = {entered, started, missing, out};
        for (int i = 0; i < all.length; i++) {
            String name = "'" + "nrmx".charAt(i) + "'";
            all[i].due("26: " + name, "nrmx".charAt(i), w -> w.state(0));
            all[i].refused("27: " + name, Edge.NO_SUCH, w -> w.time(0));
            all[i].refused("28: " + name, Edge.NO_SUCH, w -> w.split(0, 3));
            all[i].refused("29: " + name, Edge.NO_SUCH, w -> w.place(0));
            all[i].refused("30: " + name, Edge.NO_SUCH, w -> w.reference(0, 3));
            all[i].refused("31: " + name, Edge.NO_SUCH, w -> w.pace(0));
            all[i].refused("32: " + name, Edge.NO_SUCH, w -> w.loss(0, 3));
            all[i].refused("33: " + name, Edge.NO_SUCH, w -> w.points(0));
            all[i].refused("28: no such leg ahead of " + name, Edge.INDEX, w -> w.split(0, 4));
            all[i].refused("30: no such leg ahead of " + name, Edge.INDEX, w -> w.reference(0, 4));
            all[i].refused("32: no such leg ahead of " + name, Edge.INDEX, w -> w.loss(0, -1));
        }
        // Others of the course do not make up for it.
        Edge other = missing.with(run(0, 0, 9, 0, 1, 1, 2, 2, 3));
        other.refused("30: with others who are 'o'", Edge.NO_SUCH, w -> w.reference(0, 3));
        other.refused("29: with others who are 'o'", Edge.NO_SUCH, w -> w.place(0));
        other.refused("33: with others who are 'o'", Edge.NO_SUCH, w -> w.points(0));
    }
}
