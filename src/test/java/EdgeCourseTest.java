/** The boundary cases of promises 8 to 14 and of the paragraphs on controls, courses and forks. */
public final class EdgeCourseTest {
    private static final Check CHECK = new Check();
    private static final Edge NEW = new Edge(CHECK, ControlWood::new);
    /** 12 controls, number i in cell i of site i modulo 4. */
    private static final Edge TWELVE = NEW.with(EdgeCourseTest::twelve);
    /** The same with 6 courses, of which number 5 has nine controls. */
    private static final Edge FULL = TWELVE.with(EdgeCourseTest::sixCourses);

    public static void main(String[] args) {
        promise8();
        promise8Water();
        promise8Order();
        promise9();
        promise10();
        promise10OneLeg();
        promise11();
        promise11Entered();
        promise11Order();
        promise11VoidLegs();
        promise12();
        promise12Entered();
        promise12Order();
        promise13();
        promise13Near();
        promise13Ways();
        promise13NineControls();
        promise14();
        promise14NoWay();
        CHECK.end();
    }

    private static void twelve(ControlWood w) {
        for (int i = 0; i < 12; i++) {
            w.control(i, i % 4, i);
        }
    }

    private static void sixCourses(ControlWood w) {
        for (int i = 0; i < 6; i++) {
            w.course(24 - i);
        }
        for (int i = 0; i < 9; i++) {
            w.add(5, i);
        }
    }

    private static void promise8() {
        NEW.due("8: the first cell, least site and points", 0, w -> w.control(0, 0, 0));
        NEW.due("8: the last cell, most site and points", 0, w -> w.control(24, 3, 99));
        NEW.refusedOutside("8: cell", Edge.INDEX, 0, 24, (w, cell) -> w.control(cell, 0, 0));
        NEW.refusedOutside("8: site", Edge.ARGUMENT, 0, 3, (w, site) -> w.control(0, site, 0));
        NEW.refusedOutside("8: points", Edge.ARGUMENT, 0, 99, (w, points) -> w.control(0, 0, points));
        NEW.with(w -> w.control(0, 0, 99)).due("8: the points are kept", 99, w -> w.score(0, 0, 1));
        NEW.with(w -> w.control(0, 0, 7)).due("8: a second in the same cell", 1, w -> w.control(0, 0, 7));
        Edge eleven = NEW.with(w -> {
            for (int i = 0; i < 11; i++) {
                w.control(i, 0, 0);
            }
        });
        eleven.due("8: the twelfth", 11, w -> w.control(24, 0, 0));
        TWELVE.refused("8: a thirteenth", Edge.STATE, w -> w.control(24, 0, 0));
        TWELVE.due("8: the twelfth is there", true, w -> w.areNear(11, 11));
        Edge refused = NEW.with(w -> Check.told(() -> w.control(0, 4, 0)));
        refused.due("8: a refused one takes no number", 0, w -> w.control(0, 3, 0));
    }

    private static void promise8Water() {
        Edge wet = NEW.with(w -> w.cell(3, 0, 0, 'w'));
        wet.refused("8: water", Edge.UNSUPPORTED, w -> w.control(3, 0, 0));
        wet.due("8: beside water", 0, w -> w.control(4, 0, 0));
        wet.with(w -> w.cell(3, 0, 0, '.')).due("8: no longer water", 0, w -> w.control(3, 0, 0));
        NEW.with(w -> w.show(3, 0, 'w')).due("8: water on the map alone", 0, w -> w.control(3, 0, 0));
        NEW.with(w -> w.cell(3, 0, 0, 'x')).due("8: out of bounds", 0, w -> w.control(3, 0, 0));
        Edge unseen = wet.with(w -> w.show(3, 0, '.'));
        unseen.refused("8: water that the map does not show", Edge.UNSUPPORTED, w -> w.control(3, 0, 0));
    }

    private static void promise8Order() {
        Edge wet = NEW.with(w -> w.cell(3, 0, 0, 'w'));
        Edge full = TWELVE.with(w -> w.cell(3, 0, 0, 'w'));
        NEW.refused("8: no such cell ahead of site", Edge.INDEX, w -> w.control(25, 4, 0));
        NEW.refused("8: no such cell ahead of points", Edge.INDEX, w -> w.control(-1, 0, 100));
        full.refused("8: no such cell ahead of the twelve", Edge.INDEX, w -> w.control(25, 0, 0));
        full.refused("8: no such cell ahead of all", Edge.INDEX, w -> w.control(25, -1, -1));
        wet.refused("8: site ahead of water", Edge.ARGUMENT, w -> w.control(3, 4, 0));
        wet.refused("8: points ahead of water", Edge.ARGUMENT, w -> w.control(3, 0, 100));
        full.refused("8: site ahead of the twelve", Edge.ARGUMENT, w -> w.control(4, -1, 0));
        full.refused("8: points ahead of the twelve", Edge.ARGUMENT, w -> w.control(4, 0, -1));
        full.refused("8: site ahead of water and the twelve", Edge.ARGUMENT, w -> w.control(3, 4, 0));
        full.refused("8: water ahead of the twelve", Edge.UNSUPPORTED, w -> w.control(3, 0, 0));
    }

    private static void promise9() {
        TWELVE.refusedOutside("9: control", Edge.INDEX, 0, 11, (w, control) -> w.areNear(control, 0));
        TWELVE.refusedOutside("9: other", Edge.INDEX, 0, 11, (w, other) -> w.areNear(0, other));
        NEW.refused("9: there is none yet", Edge.INDEX, w -> w.areNear(0, 0));
        for (int i = 0; i < 12; i++) {
            int control = i;
            TWELVE.due("9: one and itself are, " + i, true, w -> w.areNear(control, control));
        }
        near(0, 0, 0, true, true);
        near(0, 2, 0, true, true);
        near(0, 1, 1, true, true);
        near(0, 0, 2, true, true);
        near(0, 3, 0, false, true);
        near(0, 2, 1, false, true);
        near(0, 0, 3, false, true);
        near(0, 5, 0, false, true);
        near(0, 2, 3, false, true);
        near(0, 0, 5, false, true);
        near(0, 6, 0, false, false);
        near(0, 3, 3, false, false);
        near(0, 0, 6, false, false);
        near(11, -9, 1, false, false);
        near(0, 11, 11, false, false);
    }

    /** Two controls so many columns and rows apart, of unlike sites and of the same one. */
    private static void near(int from, int columns, int rows, boolean isUnlike, boolean isAlike) {
        String name = "9: " + columns + " columns and " + rows + " rows apart";
        for (int i = 0; i < 4; i++) {
            int site = i;
            int other = (i + 1) % 4;
            int to = from + columns + 12 * rows;
            Edge unlike = NEW.with(w -> pair(w, from, site, to, other));
            unlike.due(name + ", unlike sites", isUnlike, w -> w.areNear(0, 1));
            unlike.due(name + ", unlike sites, back", isUnlike, w -> w.areNear(1, 0));
            Edge alike = NEW.with(w -> pair(w, from, site, to, site));
            alike.due(name + ", one site", isAlike, w -> w.areNear(0, 1));
            alike.due(name + ", one site, back", isAlike, w -> w.areNear(1, 0));
        }
    }

    private static void pair(ControlWood w, int cell, int site, int other, int otherSite) {
        w.land(12, 12);
        w.control(cell, site, 0);
        w.control(other, otherSite, 0);
    }

    private static void promise10() {
        NEW.due("10: the first cell", 0, w -> w.course(0));
        NEW.due("10: the last cell", 0, w -> w.course(24));
        NEW.refusedOutside("10: cell", Edge.INDEX, 0, 24, (w, cell) -> w.course(cell));
        NEW.with(w -> w.cell(3, 0, 0, 'w')).due("10: water is not ruled out", 0, w -> w.course(3));
        Edge last = NEW.with(w -> w.control(0, 0, 0)).with(w -> w.course(24)).with(w -> w.add(0, 0));
        last.due("10: the start is the finish, too", 160, w -> w.lengthOf(0));
        Edge five = NEW.with(w -> {
            for (int i = 0; i < 5; i++) {
                w.course(0);
            }
        });
        five.due("10: the sixth", 5, w -> w.course(24));
        FULL.refused("10: a seventh", Edge.STATE, w -> w.course(0));
        FULL.refused("10: no such cell ahead of the six", Edge.INDEX, w -> w.course(25));
        FULL.refused("10: no such cell ahead of the six", Edge.INDEX, w -> w.course(-1));
    }

    private static void promise10OneLeg() {
        Edge bare = NEW.with(w -> w.course(0));
        bare.due("10: without controls there is one leg", false, w -> w.voided(0, 0, true));
        bare.refused("10: and no other", Edge.INDEX, w -> w.voided(0, 1, true));
        bare.due("10: it goes nowhere", 0, w -> w.lengthOf(0));
        bare.refused("10: nobody is entered", Edge.ARITHMETIC, w -> w.okShare(0));
        bare.refused("10: it has no place", Edge.INDEX, w -> w.fork(0, 0, 0));
    }

    private static void promise11() {
        FULL.due("11: the first control", 1, w -> w.add(0, 0));
        FULL.due("11: the last control", 1, w -> w.add(4, 11));
        FULL.refusedOutside("11: course", Edge.INDEX, 0, 5, (w, course) -> w.add(course, 0));
        FULL.refusedOutside("11: control", Edge.INDEX, 0, 11, (w, control) -> w.add(0, control));
        FULL.refused("11: a tenth", Edge.STATE, w -> w.add(5, 0));
        Edge eight = TWELVE.with(w -> {
            w.course(24);
            for (int i = 0; i < 8; i++) {
                w.add(0, 0);
            }
        });
        eight.due("11: a ninth", 9, w -> w.add(0, 0));
        NEW.with(w -> w.course(0)).refused("11: there is no control yet", Edge.INDEX, w -> w.add(0, 0));
        TWELVE.refused("11: there is no course yet", Edge.INDEX, w -> w.add(0, 0));
    }

    private static void promise11Entered() {
        Edge entered = FULL.with(w -> w.runner(0, 0));
        entered.refused("11: somebody is entered", Edge.UNSUPPORTED, w -> w.add(0, 0));
        entered.due("11: for another course nobody is", 1, w -> w.add(1, 0));
        Edge chased = FULL.with(w -> {
            w.runner(0, 0);
            w.start(0, 0);
            w.finish(0, 0);
            w.chase(0, 1, 0);
        });
        chased.refused("11: somebody is entered by a chase", Edge.UNSUPPORTED, w -> w.add(1, 0));
        chased.due("11: for another course nobody is", 1, w -> w.add(2, 0));
        FULL.with(w -> w.team(0, 1)).due("11: a team is nobody", 1, w -> w.add(0, 0));
    }

    private static void promise11Order() {
        Edge entered = FULL.with(w -> w.runner(0, 5)).with(w -> w.runner(0, 0));
        entered.refused("11: no such control ahead of somebody", Edge.INDEX, w -> w.add(0, 12));
        entered.refused("11: no such control ahead of somebody", Edge.INDEX, w -> w.add(0, -1));
        FULL.refused("11: no such control ahead of nine", Edge.INDEX, w -> w.add(5, 12));
        FULL.refused("11: no such control ahead of nine", Edge.INDEX, w -> w.add(5, -1));
        entered.refused("11: no such control ahead of both", Edge.INDEX, w -> w.add(5, 12));
        entered.refused("11: somebody ahead of nine", Edge.UNSUPPORTED, w -> w.add(5, 0));
        entered.refused("11: neither is there", Edge.INDEX, w -> w.add(6, 12));
    }

    private static void promise11VoidLegs() {
        Edge bare = TWELVE.with(w -> w.course(0)).with(w -> w.voided(0, 0, true)).with(w -> w.add(0, 0));
        bare.due("11: void leg 0 stays so", true, w -> w.voided(0, 0, true));
        bare.due("11: the new leg is not", false, w -> w.voided(0, 1, true));
        Edge eight = TWELVE.with(w -> {
            w.course(0);
            for (int i = 0; i < 8; i++) {
                w.add(0, i);
            }
            w.voided(0, 8, true);
            w.add(0, 8);
        });
        eight.due("11: void leg 8 stays so", true, w -> w.voided(0, 8, true));
        eight.due("11: leg 9, the last, is not", false, w -> w.voided(0, 9, true));
        eight.refused("11: there is no leg 10", Edge.INDEX, w -> w.voided(0, 10, true));
    }

    private static void promise12() {
        FULL.due("12: the first place", 1, w -> w.fork(5, 0, 11));
        FULL.due("12: the last place", 1, w -> w.fork(5, 8, 0));
        FULL.refusedOutside("12: course", Edge.INDEX, 0, 5, (w, course) -> w.fork(course, 0, 11));
        FULL.refusedOutside("12: place", Edge.INDEX, 0, 8, (w, place) -> w.fork(5, place, 11));
        FULL.refusedOutside("12: control", Edge.INDEX, 0, 11, (w, control) -> w.fork(5, 0, control));
        FULL.refused("12: no place without controls", Edge.INDEX, w -> w.fork(0, 0, 0));
        FULL.refused("12: the control of the first place", Edge.ARGUMENT, w -> w.fork(5, 0, 0));
        FULL.refused("12: the control of the last place", Edge.ARGUMENT, w -> w.fork(5, 8, 8));
        Edge forked = FULL.with(w -> w.fork(5, 3, 11));
        forked.due("12: in place of one that was told", 1, w -> w.fork(5, 3, 10));
        forked.due("12: the same once more", 1, w -> w.fork(5, 3, 11));
        forked.refused("12: back to branch 0", Edge.ARGUMENT, w -> w.fork(5, 3, 3));
        forked.due("12: another place", 2, w -> w.fork(5, 2, 3));
        Edge eight = FULL.with(w -> {
            for (int place = 0; place < 8; place++) {
                w.fork(5, place, 11);
            }
        });
        eight.due("12: a ninth", 9, w -> w.fork(5, 8, 11));
        eight.due("12: eight as before", 8, w -> w.fork(5, 7, 10));
        Edge branched = TWELVE.with(w -> {
            w.course(0);
            w.add(0, 4);
            w.fork(0, 0, 5);
            w.fork(0, 0, 6);
            w.runner(0, 0);
            w.branches(0, 1);
            w.start(0, 0);
            w.punch(0, 5, 5);
        });
        branched.with(w -> w.finish(0, 9)).due("12: the first one told is gone", 'm', w -> w.state(0));
        branched.with(w -> w.punch(0, 6, 6)).with(w -> w.finish(0, 9)).due("12: the second one", 'o', w -> w.state(0));
    }

    private static void promise12Entered() {
        Edge entered = FULL.with(w -> w.runner(0, 5));
        entered.refused("12: somebody is entered", Edge.UNSUPPORTED, w -> w.fork(5, 0, 11));
        Edge other = FULL.with(w -> w.runner(0, 0));
        other.due("12: for another course nobody is", 1, w -> w.fork(5, 0, 11));
        FULL.with(w -> w.team(5, 1)).due("12: a team is nobody", 1, w -> w.fork(5, 0, 11));
    }

    private static void promise12Order() {
        Edge entered = FULL.with(w -> w.runner(0, 5));
        entered.refused("12: no such place ahead of somebody", Edge.INDEX, w -> w.fork(5, 9, 11));
        entered.refused("12: no such place ahead of somebody", Edge.INDEX, w -> w.fork(5, -1, 11));
        entered.refused("12: no such control ahead of somebody", Edge.INDEX, w -> w.fork(5, 0, 12));
        entered.refused("12: no such control ahead of somebody", Edge.INDEX, w -> w.fork(5, 0, -1));
        entered.refused("12: somebody ahead of its own control", Edge.UNSUPPORTED, w -> w.fork(5, 0, 0));
        FULL.refused("12: no such place ahead of its own control", Edge.INDEX, w -> w.fork(5, 9, 8));
    }

    private static void promise13() {
        Edge bare = NEW.with(EdgeCourseTest::threeControls);
        bare.due("13: it has no control", false, w -> w.isLawful(0));
        bare.with(w -> w.add(0, 0)).due("13: it has one", true, w -> w.isLawful(0));
        FULL.refusedOutside("13: course", Edge.INDEX, 0, 5, (w, course) -> w.isLawful(course));
        NEW.refused("13: there is none yet", Edge.INDEX, w -> w.isLawful(0));
        Edge one = bare.with(w -> w.add(0, 0));
        one.with(w -> w.add(0, 0)).due("13: one twice", false, w -> w.isLawful(0));
        Edge two = one.with(w -> w.add(0, 1));
        two.due("13: two", true, w -> w.isLawful(0));
        two.with(w -> w.add(0, 0)).due("13: one twice, apart", false, w -> w.isLawful(0));
        one.with(w -> w.fork(0, 0, 3)).due("13: forks aside, on the start", true, w -> w.isLawful(0));
        two.with(w -> w.fork(0, 1, 0)).due("13: forks aside, twice", true, w -> w.isLawful(0));
        bare.with(w -> w.add(0, 3)).due("13: on the start", false, w -> w.isLawful(0));
        one.with(w -> w.add(0, 3)).due("13: the last one on the start", false, w -> w.isLawful(0));
        Edge forked = bare.with(w -> w.add(0, 3)).with(w -> w.fork(0, 0, 0));
        forked.due("13: forks aside, branch 0 on the start", false, w -> w.isLawful(0));
        Edge beside = NEW.with(w -> w.control(1, 0, 0)).with(w -> w.course(0)).with(w -> w.add(0, 0));
        beside.due("13: beside the start", true, w -> w.isLawful(0));
    }

    /** Controls 0, 1, 2 in corners, 3 in cell 0, where course 0 starts. */
    private static void threeControls(ControlWood w) {
        w.control(4, 0, 0);
        w.control(24, 1, 0);
        w.control(20, 2, 0);
        w.control(0, 3, 0);
        w.course(0);
    }

    private static void promise13Near() {
        lawfulPair("13: 2 apart", 6, 0, 8, 1, false);
        lawfulPair("13: 3 apart", 6, 0, 9, 1, true);
        lawfulPair("13: 5 apart of one site", 6, 2, 6 + 3 + 10, 2, false);
        lawfulPair("13: 6 apart of one site", 6, 2, 6 + 3 + 15, 2, true);
        Edge three = NEW.with(w -> {
            threeControls(w);
            w.control(3, 1, 0);
            w.add(0, 0);
            w.add(0, 2);
            w.add(0, 4);
        });
        three.due("13: the first and the last too near", false, w -> w.isLawful(0));
    }

    private static void lawfulPair(String name, int cell, int site, int other, int otherSite, boolean is) {
        Edge two = NEW.with(w -> {
            w.control(cell, site, 0);
            w.control(other, otherSite, 0);
            w.course(0);
            w.add(0, 0);
            w.add(0, 1);
        });
        two.due(name, is, w -> w.isLawful(0));
    }

    private static void promise13Ways() {
        Edge two = NEW.with(EdgeCourseTest::threeControls).with(w -> w.add(0, 0)).with(w -> w.add(0, 1));
        two.with(w -> w.show(4, 0, 'x')).due("13: the first leg has no way", false, w -> w.isLawful(0));
        two.with(w -> w.show(24, 0, 'w')).due("13: the second leg has no way", false, w -> w.isLawful(0));
        two.with(w -> w.show(0, 0, 'x')).due("13: the last leg has no way", false, w -> w.isLawful(0));
        two.with(w -> w.cell(4, 0, 0, 'w')).due("13: a way on the map counts", true, w -> w.isLawful(0));
        Edge single = NEW.with(EdgeCourseTest::threeControls).with(w -> w.add(0, 0));
        single.with(w -> w.show(24, 0, 'w')).due("13: beside its ways", true, w -> w.isLawful(0));
        Edge shut = single.with(w -> w.show(1, 0, 'x')).with(w -> w.show(5, 0, 'w'));
        shut.due("13: the start is shut in", false, w -> w.isLawful(0));
    }

    private static void promise13NineControls() {
        Edge nine = NEW.with(EdgeCourseTest::nineOfTwelve);
        nine.due("13: nine", true, w -> w.isLawful(0));
        nine.with(w -> w.show(117, 0, 'x')).due("13: the ninth has no way", false, w -> w.isLawful(0));
        nine.with(w -> w.show(0, 0, 'x')).due("13: the last leg has no way", false, w -> w.isLawful(0));
        nine.due("14: nine", 680, w -> w.lengthOf(0));
    }

    /** Nine controls by rows of three, 4 apart, of two sites by turns, and a course from cell 0 with all of them. */
    private static void nineOfTwelve(ControlWood w) {
        w.land(12, 12);
        w.course(0);
        for (int i = 0; i < 9; i++) {
            w.control((1 + 4 * (i / 3)) * 12 + 1 + 4 * (i % 3), i % 2, 0);
            w.add(0, i);
        }
    }

    private static void promise14() {
        Edge bare = NEW.with(EdgeCourseTest::threeControls);
        bare.due("14: without controls", 0, w -> w.lengthOf(0));
        bare.with(w -> w.show(0, 0, 'w')).due("14: without controls, in water", 0, w -> w.lengthOf(0));
        bare.with(w -> w.add(0, 0)).due("14: there and back", 80, w -> w.lengthOf(0));
        bare.with(w -> w.add(0, 3)).due("14: on the start", 0, w -> w.lengthOf(0));
        bare.with(w -> w.add(0, 0)).with(w -> w.fork(0, 0, 1)).due("14: forks aside", 80, w -> w.lengthOf(0));
        FULL.refusedOutside("14: course", Edge.INDEX, 0, 5, (w, course) -> w.lengthOf(course));
        NEW.refused("14: there is none yet", Edge.INDEX, w -> w.lengthOf(0));
        Edge steep = bare.with(w -> w.add(0, 0)).with(w -> w.cell(4, 9, 9, 'w'));
        steep.due("14: the map knows the heights alone", 80 + 54, w -> w.lengthOf(0));
    }

    private static void promise14NoWay() {
        Edge two = NEW.with(EdgeCourseTest::threeControls).with(w -> w.add(0, 0)).with(w -> w.add(0, 1));
        two.with(w -> w.show(4, 0, 'x')).refused("14: the first leg", Edge.NO_SUCH, w -> w.lengthOf(0));
        two.with(w -> w.show(24, 0, 'w')).refused("14: the second leg", Edge.NO_SUCH, w -> w.lengthOf(0));
        two.with(w -> w.show(0, 0, 'x')).refused("14: the last leg", Edge.NO_SUCH, w -> w.lengthOf(0));
        two.with(w -> w.cell(24, 0, 0, 'w')).due("14: the map does not know", 160, w -> w.lengthOf(0));
    }
}
