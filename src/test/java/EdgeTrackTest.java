/** The boundary cases of promises 39 to 43: chases, scores, tracks. */
public final class EdgeTrackTest {
    private static final Check CHECK = new Check();
    private static final Edge NEW = new Edge(CHECK, ControlWood::new);
    /** Controls 0 to 3; course 0 with 0, 1, 2; course 1 with none. */
    private static final Edge WOOD = new Edge(CHECK, ResultTest::wood);
    private static final int MOST = Integer.MAX_VALUE;

    public static void main(String[] args) {
        promise39();
        promise39Most();
        promise39Order();
        promise39OfSeveralAlike();
        promise39New();
        promise39AboveAndBelow();
        promise40Ranges();
        promise40Limit();
        promise40Cut();
        promise40Most();
        promise40Water();
        promise41();
        promise41Refused();
        promise42();
        promise42Most();
        promise42Order();
        promise43();
        promise43Seconds();
        promise43Most();
        promise43Ways();
        CHECK.end();
    }

    private static void times(ControlWood w, int... times) {
        for (int time : times) {
            ResultTest.run(w, 1, 0, time);
        }
    }

    private static void promise39() {
        WOOD.due("39: nobody", 0, w -> w.chase(0, 1, 0));
        WOOD.due("39: nobody, from a course to itself", 0, w -> w.chase(0, 0, 9999));
        Edge one = WOOD.with(w -> times(w, 50));
        one.due("39: one, from the least seconds on", 1, w -> w.chase(1, 0, 0));
        one.with(w -> w.chase(1, 0, 0)).due("39: the first start", 0, w -> w.startOf(1));
        one.due("39: one, from the most seconds on", 1, w -> w.chase(1, 0, 9999));
        one.with(w -> w.chase(1, 0, 9999)).due("39: the first start", 9999, w -> w.startOf(1));
        one.refusedOutside("39: course", Edge.INDEX, 0, 1, (w, course) -> w.chase(course, 0, 0));
        one.refusedOutside("39: other", Edge.INDEX, 0, 1, (w, other) -> w.chase(1, other, 0));
        one.refusedOutside("39: first", Edge.ARGUMENT, 0, 9999, (w, first) -> w.chase(1, 0, first));
        NEW.refused("39: no course yet", Edge.INDEX, w -> w.chase(0, 0, 0));
        Edge itself = one.with(w -> w.chase(1, 1, 7));
        itself.due("39: from a course to itself", 7, w -> w.startOf(1));
        itself.due("39: the new one is not yet 'o'", 1, w -> w.chase(1, 1, 7));
        Edge others = one.with(w -> {
            w.runner(0, 1);
            w.runner(0, 1);
            w.start(2, 0);
            ResultTest.run(w, 0, 0, 9);
        });
        others.due("39: only those who are 'o'", 1, w -> w.chase(1, 0, 0));
        others.due("39: one who is 'm' does not start", 0, w -> w.chase(0, 1, 0));
    }

    private static void promise39Most() {
        Edge six = WOOD.with(w -> times(w, 60, 50, 40, 30, 20, 10));
        six.due("39: as many as there can be", 6, w -> w.chase(1, 0, 0));
        Edge twelve = six.with(w -> w.chase(1, 0, 100));
        for (int i = 0; i < 6; i++) {
            int place = i;
            twelve.due("39: the start of place " + i, 100 + 10 * i, w -> w.startOf(6 + place));
        }
        twelve.refused("39: there are 12", Edge.STATE, w -> w.chase(1, 0, 0));
        twelve.due("39: there are 12, and nobody would come", 0, w -> w.chase(0, 1, 0));
        Edge mixed = WOOD.with(w -> times(w, 30, 60, 10, 50, 20, 40)).with(w -> w.chase(1, 0, 100));
        for (int i = 0; i < 6; i++) {
            int place = i;
            mixed.due("39: the start of place " + i, 100 + 10 * i, w -> w.startOf(6 + place));
        }
        Edge seven = six.with(w -> w.runner(0, 0));
        seven.refused("39: there would be 13", Edge.STATE, w -> w.chase(1, 0, 0));
        Edge all = WOOD.with(w -> times(w, 1, 2, 3, 4, 5, 6, 7, 8, 9, 10, 11, 12));
        all.refused("39: there would be 24", Edge.STATE, w -> w.chase(1, 0, 0));
        Edge fewer = seven.with(w -> w.cell(0, 0, 0, 'x')).with(w -> w.fix(0, 0, 0));
        fewer.due("39: those who are 'o' count", 5, w -> w.chase(1, 0, 0));
    }

    private static void promise39Order() {
        Edge seven = WOOD.with(w -> times(w, 1, 2, 3, 4, 5, 6, 7));
        seven.refused("39: no such course ahead of first", Edge.INDEX, w -> w.chase(2, 0, -1));
        seven.refused("39: no such other ahead of first", Edge.INDEX, w -> w.chase(1, -1, 10000));
        seven.refused("39: no such other ahead of 13", Edge.INDEX, w -> w.chase(1, 2, 0));
        seven.refused("39: first ahead of 13", Edge.ARGUMENT, w -> w.chase(1, 0, -1));
        seven.refused("39: first ahead of 13", Edge.ARGUMENT, w -> w.chase(1, 0, 10000));
        seven.refused("39: no such other ahead of both", Edge.INDEX, w -> w.chase(1, 2, -1));
        seven.refused("39: 13 alone", Edge.STATE, w -> w.chase(1, 0, 0));
    }

    /** With seed 1 the lots of three of one club are 2, 0, 1, so a start list tells who is of another club. */
    private static void promise39OfSeveralAlike() {
        int[] clubs = {5, 6, 5};
        Edge alike = WOOD.with(w -> {
            for (int club : clubs) {
                int runner = w.runner(club, 1);
                w.start(runner, 0);
                w.finish(runner, 40);
            }
            w.chase(1, 0, 7);
        });
        for (int i = 3; i < 6; i++) {
            int runner = i;
            alike.due("39: of several alike all start at once", 7, w -> w.startOf(runner));
        }
        // The clubs of 3, 4, 5 are 5, 6, 5, if they stand by lower numbers: the list is 5, 4, 3.
        Edge drawn = alike.with(w -> w.draw(0, 1, 0, 1));
        drawn.due("39: by lower numbers, of their clubs", 2, w -> w.startOf(3));
        drawn.due("39: by lower numbers, of their clubs", 1, w -> w.startOf(4));
        drawn.due("39: by lower numbers, of their clubs", 0, w -> w.startOf(5));
        Edge places = WOOD.with(w -> {
            for (int i = 0; i < 3; i++) {
                int runner = w.runner(clubs[i], 1);
                w.start(runner, 0);
                w.finish(runner, 40 - i / 2);
            }
            w.chase(1, 0, 7);
        });
        // By places they are 2, 0, 1, of the clubs 5, 5, 6: the list is 5, 3, 4.
        Edge listed = places.with(w -> w.draw(0, 1, 0, 1));
        places.due("39: the best first", 7, w -> w.startOf(3));
        places.due("39: a second behind", 8, w -> w.startOf(4));
        places.due("39: a second behind", 8, w -> w.startOf(5));
        listed.due("39: by places, of their clubs", 1, w -> w.startOf(3));
        listed.due("39: by places, of their clubs", 2, w -> w.startOf(4));
        listed.due("39: by places, of their clubs", 0, w -> w.startOf(5));
    }

    private static void promise39New() {
        Edge used = WOOD.with(w -> {
            w.course(0);
            w.add(2, 0);
            w.fork(2, 0, 1);
            w.runner(8, 2);
            w.branches(0, 1);
            w.start(0, 30);
            w.punch(0, 1, 40);
            w.finish(0, 50);
            w.rule(0, 20);
            w.fix(0, 3, 3);
            w.chase(2, 2, 11);
        });
        used.due("39: a new runner", 'r', w -> w.state(1));
        used.due("39: no branches", 0, w -> w.branches(1, 1));
        used.due("39: no ruling", 11, w -> w.rule(1, -1));
        used.due("39: no punch", 1, w -> w.punch(1, 0, 11));
        used.due("39: no fix", 1, w -> w.fix(1, 0, 0));
        used.due("39: the one of the results stays", 30, w -> w.time(0));
        used.refused("39: a start of its own", Edge.ARGUMENT, w -> w.punch(1, 0, 10));
    }

    private static void promise39AboveAndBelow() {
        Edge last = WOOD.with(w -> times(w, 0, 90000)).with(w -> w.chase(1, 0, 9999));
        last.due("39: at 99999", 99999, w -> w.startOf(3));
        last.due("39: there one can punch", 1, w -> w.punch(3, 0, 99999));
        Edge above = WOOD.with(w -> times(w, 0, 90001)).with(w -> w.chase(1, 0, 9999));
        above.due("39: whatever comes above 99999", 100000, w -> w.startOf(3));
        Edge most = WOOD.with(w -> {
            times(w, 0);
            w.rule(0, 99999);
            ResultTest.run(w, 1, 99999, 99999);
            w.rule(1, 0);
            w.chase(1, 0, 9999);
        });
        most.due("39: the best below 0", 9999, w -> w.startOf(2));
        most.due("39: the most behind", 9999 + 99999 + 99999, w -> w.startOf(3));
    }

    private static void promise40Ranges() {
        Edge one = NEW.with(w -> w.control(0, 0, 5));
        one.due("40: the first cell, the least limit and pace", 5, w -> w.score(0, 0, 1));
        one.due("40: the last cell, the most limit and pace", 5, w -> w.score(24, 9999, 9999));
        one.refusedOutside("40: start", Edge.INDEX, 0, 24, (w, start) -> w.score(start, 0, 1));
        one.refusedOutside("40: limit", Edge.ARGUMENT, 0, 9999, (w, limit) -> w.score(0, limit, 1));
        one.refusedOutside("40: pace", Edge.ARGUMENT, 1, 9999, (w, pace) -> w.score(0, 0, pace));
        one.refused("40: no such cell ahead of the limit", Edge.INDEX, w -> w.score(25, -1, 1));
        one.refused("40: no such cell ahead of the pace", Edge.INDEX, w -> w.score(-1, 0, 0));
        one.refused("40: no such cell ahead of both", Edge.INDEX, w -> w.score(25, 10000, 10000));
        NEW.due("40: without controls", 0, w -> w.score(0, 9999, 1));
        NEW.with(w -> w.control(0, 0, 0)).due("40: one without points", 0, w -> w.score(0, 9999, 1));
    }

    private static void promise40Limit() {
        Edge two = NEW.with(w -> w.control(4, 0, 3)).with(w -> w.control(20, 0, 5));
        two.due("40: at the limit, there and back", 5, w -> w.score(0, 80, 1000));
        two.due("40: a second short on the way back", 0, w -> w.score(0, 79, 1000));
        two.due("40: at the limit, both", 8, w -> w.score(0, 160, 1000));
        two.due("40: a second short for both", 5, w -> w.score(0, 159, 1000));
        two.due("40: on the control", 3, w -> w.score(4, 0, 1000));
        two.due("40: at the most pace", 0, w -> w.score(0, 797, 9999));
        two.due("40: at the most pace, 399 each way", 5, w -> w.score(0, 798, 9999));
        two.due("40: at the least pace", 8, w -> w.score(0, 0, 1));
        two.due("40: each but once", 8, w -> w.score(0, 9999, 1000));
        Edge round = NEW.with(w -> w.control(24, 0, 1)).with(w -> w.control(4, 0, 3)).with(w -> w.control(20, 0, 5));
        round.due("40: at the limit, round about", 9, w -> w.score(0, 160, 1000));
        round.due("40: a second short", 5, w -> w.score(0, 159, 1000));
        Edge alike = NEW.with(w -> w.control(4, 0, 3)).with(w -> w.control(4, 1, 5));
        alike.due("40: two in one cell are unlike", 8, w -> w.score(0, 80, 1000));
        Edge steep = NEW.with(w -> w.control(1, 0, 3)).with(w -> w.cell(1, 9, 9, '.'));
        steep.due("40: up is dearer than back", 3, w -> w.score(0, 119, 1000));
        steep.due("40: a second short", 0, w -> w.score(0, 118, 1000));
        Edge deep = NEW.with(w -> w.control(1, 0, 3)).with(w -> w.cell(0, 9, 9, '.'));
        deep.due("40: back is dearer than there", 3, w -> w.score(0, 119, 1000));
        deep.due("40: a second short", 0, w -> w.score(0, 118, 1000));
    }

    private static void promise40Cut() {
        Edge one = NEW.with(w -> w.control(1, 0, 3));
        one.due("40: 0.99 is cut to 0", 3, w -> w.score(0, 0, 99));
        one.due("40: 1 is 1", 0, w -> w.score(0, 1, 100));
        one.due("40: 1 there and 1 back", 3, w -> w.score(0, 2, 100));
        one.due("40: 1.99 is cut to 1", 3, w -> w.score(0, 2, 199));
        one.due("40: 2 is 2", 0, w -> w.score(0, 3, 200));
        one.due("40: at 1000 as it costs", 3, w -> w.score(0, 20, 1000));
        one.due("40: at 1001 cut to it", 3, w -> w.score(0, 20, 1001));
        one.due("40: at 999 cut to one less", 3, w -> w.score(0, 18, 999));
        Edge far = NEW.with(w -> w.control(24, 0, 3));
        far.due("40: 80 at 999 is 79", 3, w -> w.score(0, 158, 999));
        far.due("40: 80 at 999 is not 78", 0, w -> w.score(0, 157, 999));
        far.due("40: 80 at 1001 is 80", 3, w -> w.score(0, 160, 1001));
        far.due("40: 80 at 1012 is 80", 3, w -> w.score(0, 160, 1012));
        far.due("40: 80 at 1013 is 81", 0, w -> w.score(0, 161, 1013));
        Edge between = far.with(w -> w.control(12, 0, 2));
        between.due("40: each way cut by itself, 0.99 four times", 5, w -> w.score(0, 1, 24));
        Edge three = NEW.with(w -> w.control(1, 0, 2)).with(w -> w.control(2, 0, 4));
        three.due("40: 10 at 150 is 1, 20 is 3", 6, w -> w.score(0, 5, 150));
        three.due("40: no further", 2, w -> w.score(0, 4, 150));
    }

    private static void promise40Most() {
        Edge twelve = NEW.with(w -> {
            for (int i = 0; i < 12; i++) {
                w.control(2 * i, i % 4, 99);
            }
        });
        twelve.due("40: all twelve, the most points", 12 * 99, w -> w.score(0, 9999, 1000));
        twelve.due("40: at no seconds", 12 * 99, w -> w.score(24, 0, 1));
        Edge row = NEW.with(w -> {
            w.land(12, 3);
            for (int i = 0; i < 12; i++) {
                w.control(i, i % 4, 1 << Math.min(i, 6));
            }
        });
        row.due("40: as far as the eleventh", 1 + 2 + 4 + 8 + 16 + 32 + 5 * 64, w -> w.score(0, 219, 1000));
        row.due("40: as far as the twelfth", 1 + 2 + 4 + 8 + 16 + 32 + 6 * 64, w -> w.score(0, 220, 1000));
        row.due("40: the last ones from the other end", 64 + 64, w -> w.score(11, 39, 1000));
        Edge dear = NEW.with(w -> {
            w.land(12, 12);
            for (int cell = 0; cell < 144; cell++) {
                w.cell(cell, 9, 9 * ((cell / 12 + cell) % 2), '.');
            }
            for (int i = 0; i < 12; i++) {
                w.control(143 - i, 0, 99);
            }
        });
        dear.due("40: ways far above the limit", 0, w -> w.score(0, 9999, 9999));
        dear.due("40: the longest ways at the least pace", 12 * 99, w -> w.score(0, 9999, 1));
    }

    private static void promise40Water() {
        Edge wet = NEW.with(w -> w.control(1, 0, 3)).with(w -> w.control(24, 0, 5)).with(w -> w.cell(1, 0, 0, 'w'));
        wet.due("40: no way to the one in water", 5, w -> w.score(0, 9999, 1));
        wet.due("40: the first cell aside", 3, w -> w.score(1, 9999, 1));
        wet.due("40: none from water and back into it", 3, w -> w.score(1, 9999, 1000));
        wet.with(w -> w.cell(1, 0, 0, 'x')).due("40: out of bounds", 8, w -> w.score(0, 9999, 1));
        Edge shown = wet.with(w -> w.cell(1, 0, 0, '.')).with(w -> w.show(1, 0, 'w'));
        shown.due("40: on the land", 8, w -> w.score(0, 9999, 1));
        Edge shut = NEW.with(w -> w.control(0, 0, 3)).with(w -> w.control(24, 0, 5));
        Edge island = shut.with(w -> w.cell(1, 0, 0, 'w')).with(w -> w.cell(5, 0, 0, 'w'));
        island.due("40: no way off", 3, w -> w.score(0, 9999, 1));
        island.due("40: no way to it", 5, w -> w.score(12, 9999, 1));
    }

    private static void promise41() {
        NEW.due("41: the least numbers", 0, w -> w.late(0, 0, 0));
        NEW.due("41: the most numbers", 0, w -> w.late(9999, 9999, 99));
        NEW.due("41: the most points, in time", 9999, w -> w.late(9999, 0, 99));
        NEW.due("41: the most points, none for a minute", 9999, w -> w.late(9999, 9999, 0));
        NEW.due("41: in time", 50, w -> w.late(50, 0, 10));
        NEW.due("41: a minute begun", 40, w -> w.late(50, 1, 10));
        NEW.due("41: a second less than a minute", 40, w -> w.late(50, 59, 10));
        NEW.due("41: a minute", 40, w -> w.late(50, 60, 10));
        NEW.due("41: a second more than a minute", 30, w -> w.late(50, 61, 10));
        NEW.due("41: two minutes", 30, w -> w.late(50, 120, 10));
        NEW.due("41: a second more", 20, w -> w.late(50, 121, 10));
        NEW.due("41: a point is left", 1, w -> w.late(100, 1, 99));
        NEW.due("41: none is left", 0, w -> w.late(99, 1, 99));
        NEW.due("41: at least 0", 0, w -> w.late(98, 1, 99));
        NEW.due("41: the most seconds are 167 minutes begun", 9999 - 167, w -> w.late(9999, 9999, 1));
    }

    private static void promise41Refused() {
        NEW.refusedOutside("41: points", Edge.ARGUMENT, 0, 9999, (w, points) -> w.late(points, 0, 0));
        NEW.refusedOutside("41: late", Edge.ARGUMENT, 0, 9999, (w, late) -> w.late(0, late, 0));
        NEW.refusedOutside("41: each", Edge.ARGUMENT, 0, 99, (w, each) -> w.late(0, 0, each));
        NEW.refused("41: all", Edge.ARGUMENT, w -> w.late(-1, 10000, 100));
    }

    private static void promise42() {
        Edge one = WOOD.with(w -> w.runner(0, 1));
        one.due("42: the first cell, at 0", 1, w -> w.fix(0, 0, 0));
        one.due("42: the last cell, at the last second there is", 1, w -> w.fix(0, 24, MOST));
        one.refused("42: below 0", Edge.ARGUMENT, w -> w.fix(0, 0, -1));
        one.refused("42: far below 0", Edge.ARGUMENT, w -> w.fix(0, 0, Integer.MIN_VALUE));
        one.refusedOutside("42: runner", Edge.INDEX, 0, 0, (w, runner) -> w.fix(runner, 0, 0));
        one.refusedOutside("42: cell", Edge.INDEX, 0, 24, (w, cell) -> w.fix(0, cell, 0));
        WOOD.refused("42: nobody yet", Edge.INDEX, w -> w.fix(0, 0, 0));
        Edge zero = one.with(w -> w.fix(0, 5, 0));
        zero.due("42: above the last fix", 2, w -> w.fix(0, 5, 1));
        zero.refused("42: with the last fix", Edge.ARGUMENT, w -> w.fix(0, 6, 0));
        zero.refused("42: below the last fix and 0", Edge.ARGUMENT, w -> w.fix(0, 6, -1));
        Edge later = zero.with(w -> w.fix(0, 5, 10));
        later.due("42: a second above", 3, w -> w.fix(0, 5, 11));
        later.refused("42: with the last one", Edge.ARGUMENT, w -> w.fix(0, 5, 10));
        later.refused("42: a second below", Edge.ARGUMENT, w -> w.fix(0, 5, 9));
        one.with(w -> w.fix(0, 0, MOST)).refused("42: none above the last second", Edge.ARGUMENT, w -> w.fix(0, 0, MOST));
        Edge twelve = WOOD.with(w -> {
            for (int i = 0; i < 12; i++) {
                w.runner(0, 1);
            }
        });
        twelve.due("42: the last runner", 1, w -> w.fix(11, 0, 0));
        twelve.refusedOutside("42: runner of twelve", Edge.INDEX, 0, 11, (w, runner) -> w.fix(runner, 0, 0));
        one.with(w -> w.cell(3, 0, 0, 'w')).due("42: water is not ruled out", 1, w -> w.fix(0, 3, 0));
    }

    private static void promise42Most() {
        Edge eleven = WOOD.with(w -> w.runner(0, 1)).with(w -> fixes(w, 11));
        eleven.due("42: the twelfth", 12, w -> w.fix(0, 0, 11));
        Edge twelve = WOOD.with(w -> w.runner(0, 1)).with(w -> fixes(w, 12));
        twelve.refused("42: there are 12", Edge.STATE, w -> w.fix(0, 0, 12));
        twelve.refused("42: there are 12", Edge.STATE, w -> w.fix(0, 24, MOST));
        twelve.with(w -> w.runner(0, 1)).due("42: of another there are none", 1, w -> w.fix(1, 0, 0));
    }

    private static void fixes(ControlWood w, int count) {
        for (int i = 0; i < count; i++) {
            w.fix(0, 0, i);
        }
    }

    private static void promise42Order() {
        Edge twelve = WOOD.with(w -> w.runner(0, 1)).with(w -> fixes(w, 12));
        twelve.refused("42: no such runner ahead of the seconds", Edge.INDEX, w -> w.fix(1, 0, -1));
        twelve.refused("42: no such cell ahead of the seconds", Edge.INDEX, w -> w.fix(0, 25, -1));
        twelve.refused("42: no such cell ahead of the seconds", Edge.INDEX, w -> w.fix(0, -1, 11));
        twelve.refused("42: no such cell ahead of the 12", Edge.INDEX, w -> w.fix(0, 25, 12));
        twelve.refused("42: the seconds ahead of the 12", Edge.ARGUMENT, w -> w.fix(0, 0, -1));
        twelve.refused("42: the seconds ahead of the 12", Edge.ARGUMENT, w -> w.fix(0, 0, 11));
    }

    private static void promise43() {
        Edge one = WOOD.with(w -> w.runner(0, 1));
        one.due("43: no fix yet", false, w -> w.mayHave(0, 0));
        one.with(w -> w.fix(0, 4, 0)).due("43: a fix there", true, w -> w.mayHave(0, 0));
        one.with(w -> w.fix(0, 3, 0)).due("43: a fix beside it", false, w -> w.mayHave(0, 0));
        one.refusedOutside("43: runner", Edge.INDEX, 0, 0, (w, runner) -> w.mayHave(runner, 0));
        one.refusedOutside("43: control", Edge.INDEX, 0, 3, (w, control) -> w.mayHave(0, control));
        one.refused("43: neither", Edge.INDEX, w -> w.mayHave(1, 4));
        NEW.refused("43: nobody yet", Edge.INDEX, w -> w.mayHave(0, 0));
        Edge wet = one.with(w -> w.fix(0, 4, 0)).with(w -> w.cell(4, 0, 0, 'w'));
        wet.due("43: a fix there, in water", true, w -> w.mayHave(0, 0));
    }

    private static void promise43Seconds() {
        track("43: as many seconds as the ways cost", 0, 10, 2, 70, true);
        track("43: a second fewer", 0, 10, 2, 69, false);
        track("43: a second more", 0, 10, 2, 71, true);
        track("43: there and back", 3, 0, 3, 20, true);
        track("43: there and back, a second fewer", 3, 0, 3, 19, false);
        track("43: all the seconds there are", 20, 0, 20, MOST, true);
        track("43: at the end of the seconds there are", 3, MOST - 20, 3, MOST, true);
        track("43: at the end of them, a second fewer", 3, MOST - 19, 3, MOST, false);
        Edge apart = tracked(0, 10, 2, 69).with(w -> w.fix(0, 2, 88));
        apart.due("43: only fixes that follow each other", false, w -> w.mayHave(0, 0));
        apart.with(w -> w.fix(0, 0, 200)).due("43: behind it", true, w -> w.mayHave(0, 0));
    }

    /** Control 0 lies in cell 4. */
    private static void track(String name, int cell, int seconds, int other, int later, boolean may) {
        tracked(cell, seconds, other, later).due(name, may, w -> w.mayHave(0, 0));
    }

    private static Edge tracked(int cell, int seconds, int other, int later) {
        return WOOD.with(w -> w.runner(0, 1)).with(w -> w.fix(0, cell, seconds)).with(w -> w.fix(0, other, later));
    }

    private static void promise43Most() {
        for (int i = 0; i < 12; i++) {
            int there = i;
            Edge track = WOOD.with(w -> w.runner(0, 1)).with(w -> {
                for (int k = 0; k < 12; k++) {
                    w.fix(0, k == there ? 4 : 3, k);
                }
            });
            track.due("43: fix " + i + " there", true, w -> w.mayHave(0, 0));
            track.due("43: not elsewhere", false, w -> w.mayHave(0, 1));
        }
        for (int i = 1; i < 12; i++) {
            int gap = i;
            Edge track = WOOD.with(w -> w.runner(0, 1)).with(w -> {
                for (int k = 0; k < 12; k++) {
                    w.fix(0, 3, k < gap ? k : k + 19);
                }
            });
            track.due("43: a gap ahead of fix " + i, true, w -> w.mayHave(0, 0));
            track.due("43: too short for another", false, w -> w.mayHave(0, 3));
        }
        Edge twelve = NEW.with(w -> {
            w.course(0);
            for (int i = 0; i < 12; i++) {
                w.control(i, 0, 0);
                w.runner(0, 0);
            }
            w.fix(11, 11, 0);
        });
        twelve.due("43: the last runner, the last control", true, w -> w.mayHave(11, 11));
        twelve.refusedOutside("43: runner of twelve", Edge.INDEX, 0, 11, (w, runner) -> w.mayHave(runner, 0));
        twelve.refusedOutside("43: control of twelve", Edge.INDEX, 0, 11, (w, control) -> w.mayHave(0, control));
    }

    private static void promise43Ways() {
        // Up to the control by 9 it is 64 and a growth of 9 more, back it is 10.
        Edge steep = tracked(3, 0, 3, 119).with(w -> w.cell(4, 9, 9, '.'));
        steep.due("43: up and back", true, w -> w.mayHave(0, 0));
        Edge upFewer = tracked(3, 0, 3, 118).with(w -> w.cell(4, 9, 9, '.'));
        upFewer.due("43: up and back, a second fewer", false, w -> w.mayHave(0, 0));
        Edge deep = tracked(3, 0, 3, 119).with(w -> w.cell(3, 9, 9, '.'));
        deep.due("43: down and back", true, w -> w.mayHave(0, 0));
        Edge downFewer = tracked(3, 0, 3, 118).with(w -> w.cell(3, 9, 9, '.'));
        downFewer.due("43: down and back, a second fewer", false, w -> w.mayHave(0, 0));
        Edge lasting = tracked(3, 0, 3, MOST);
        lasting.with(w -> w.cell(4, 0, 0, 'w')).due("43: no way to it", false, w -> w.mayHave(0, 0));
        lasting.with(w -> w.cell(3, 0, 0, 'w')).due("43: no way from it", false, w -> w.mayHave(0, 0));
        Edge island = tracked(0, 0, 3, MOST).with(w -> w.cell(1, 0, 0, 'w')).with(w -> w.cell(5, 0, 0, 'w'));
        island.due("43: no way from the first fix to it", false, w -> w.mayHave(0, 0));
        Edge back = tracked(3, 0, 0, MOST).with(w -> w.cell(1, 0, 0, 'w')).with(w -> w.cell(5, 0, 0, 'w'));
        back.due("43: no way from it to the second fix", false, w -> w.mayHave(0, 0));
        Edge leaving = tracked(3, 0, 2, 30).with(w -> w.cell(3, 0, 0, 'w'));
        leaving.due("43: out of water, but round about", false, w -> w.mayHave(0, 0));
        Edge time = tracked(3, 0, 2, 50).with(w -> w.cell(3, 0, 0, 'w'));
        time.due("43: out of water, the first cell aside", true, w -> w.mayHave(0, 0));
        tracked(3, 0, 3, 20).with(w -> w.cell(4, 0, 0, 'x')).due("43: out of bounds", true, w -> w.mayHave(0, 0));
        Edge shown = tracked(3, 0, 3, 20).with(w -> w.show(4, 9, 'w'));
        shown.due("43: on the land", true, w -> w.mayHave(0, 0));
    }
}
