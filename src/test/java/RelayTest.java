import java.util.NoSuchElementException;

/** Promises 34 to 43: relays, chases, scores, tracks. */
public final class RelayTest {
    private static final Class<IndexOutOfBoundsException> INDEX = IndexOutOfBoundsException.class;
    private static final Class<IllegalArgumentException> ARGUMENT = IllegalArgumentException.class;
    private static final Class<NoSuchElementException> NO_SUCH = NoSuchElementException.class;
    private static final Class<IllegalStateException> STATE = IllegalStateException.class;
    private static final Class<UnsupportedOperationException> UNSUPPORTED = UnsupportedOperationException.class;
    private static final Check CHECK = new Check();

    public static void main(String[] args) {
        team();
        runs();
        isFair();
        isFairByLegs();
        isFairAsTheCourseIsNow();
        fairWays();
        changeover();
        chase();
        chaseInOrder();
        chaseRefuses();
        score();
        scoreByLand();
        scoreCutsEachWay();
        late();
        fix();
        mayHave();
        mayHaveByLand();
        CHECK.end();
    }

    /** Controls 0 to 3; course 0 with 0, 1, 2 and forks at places 0 and 2, course 1 with none. */
    private static ControlWood wood() {
        ControlWood w = new ControlWood();
        w.control(4, 0, 10);
        w.control(24, 1, 20);
        w.control(20, 2, 30);
        w.control(12, 3, 40);
        w.course(0);
        w.add(0, 0);
        w.add(0, 1);
        w.add(0, 2);
        w.fork(0, 0, 3);
        w.fork(0, 2, 3);
        w.course(10);
        return w;
    }

    private static void team() {
        ControlWood w = wood();
        CHECK.due("first", 0, () -> w.team(0, 3));
        CHECK.due("second", 1, () -> w.team(0, 1));
        CHECK.fails(INDEX, "course 2", () -> w.team(2, 0));
        CHECK.fails(INDEX, "course -1", () -> w.team(-1, 1));
        CHECK.fails(ARGUMENT, "no runs", () -> w.team(0, 0));
        CHECK.fails(ARGUMENT, "4 runs", () -> w.team(0, 4));
        CHECK.fails(ARGUMENT, "4 runs on another course", () -> w.team(1, 4));
        CHECK.due("a refused one leaves the relay", 0, () -> w.runs(1, 0, 3));
        for (int i = 2; i < 6; i++) {
            int number = i;
            CHECK.due("team " + i, number, () -> w.team(0, 2));
        }
        CHECK.fails(STATE, "a seventh", () -> w.team(0, 1));
        CHECK.fails(ARGUMENT, "a seventh of 4 runs", () -> w.team(0, 4));
        CHECK.due("another course", 0, () -> w.team(1, 1));
        CHECK.fails(INDEX, "the others are gone", () -> w.runs(1, 0, 0));
        CHECK.due("and back", 0, () -> w.team(0, 2));
        CHECK.fails(INDEX, "two runs", () -> w.runs(0, 2, 0));
        noBranchesAreLeft();
    }

    private static void noBranchesAreLeft() {
        ControlWood w = wood();
        for (int round = 0; round < 2; round++) {
            w.team(1, 1);
            for (int team = 0; team < 6; team++) {
                int number = team;
                w.team(0, 3);
                CHECK.due("first run", 0, () -> w.runs(number, 0, 1));
                CHECK.due("second run", 0, () -> w.runs(number, 1, 2));
                CHECK.due("third run", 0, () -> w.runs(number, 2, 3));
            }
        }
    }

    private static void runs() {
        ControlWood w = wood();
        CHECK.fails(INDEX, "no team", () -> w.runs(0, 0, 0));
        w.team(0, 2);
        w.team(0, 3);
        CHECK.due("at first", 0, () -> w.runs(1, 2, 3));
        CHECK.due("before", 3, () -> w.runs(1, 2, 1));
        CHECK.due("of another run", 0, () -> w.runs(1, 1, 1));
        CHECK.due("of another team", 0, () -> w.runs(0, 1, 2));
        CHECK.due("before", 1, () -> w.runs(1, 2, 0));
        CHECK.fails(INDEX, "team 2", () -> w.runs(2, 0, 4));
        CHECK.fails(INDEX, "team -1", () -> w.runs(-1, 0, 0));
        CHECK.fails(INDEX, "run 2 of two", () -> w.runs(0, 2, 4));
        CHECK.fails(INDEX, "run 3", () -> w.runs(1, 3, 0));
        CHECK.fails(INDEX, "run -1", () -> w.runs(1, -1, 0));
        CHECK.fails(ARGUMENT, "a third fork", () -> w.runs(0, 0, 4));
        CHECK.fails(ARGUMENT, "-1", () -> w.runs(0, 0, -1));
        w.team(1, 1);
        CHECK.fails(ARGUMENT, "no fork", () -> w.runs(0, 0, 1));
        CHECK.due("none of none", 0, () -> w.runs(0, 0, 0));
    }

    private static void isFair() {
        ControlWood w = wood();
        CHECK.due("without teams", true, () -> w.isFair());
        w.team(0, 2);
        w.runs(0, 0, 1);
        CHECK.due("one team", true, () -> w.isFair());
        w.team(0, 2);
        CHECK.due("unlike legs", false, () -> w.isFair());
        w.runs(1, 1, 1);
        CHECK.due("in another run", true, () -> w.isFair());
        w.runs(0, 1, 2);
        w.runs(1, 0, 2);
        CHECK.due("both forks", true, () -> w.isFair());
        w.runs(0, 0, 3);
        w.runs(0, 1, 0);
        // The forks do not touch: legs are alike when each branch is run as often.
        CHECK.due("by legs, not by runs", true, () -> w.isFair());
        w.team(0, 2);
        CHECK.due("the third team", false, () -> w.isFair());
        w.runs(2, 0, 3);
        CHECK.due("all three", true, () -> w.isFair());
        w.team(1, 1);
        w.team(1, 2);
        CHECK.due("not as many runs", false, () -> w.isFair());
    }

    private static void isFairByLegs() {
        ControlWood w = wood();
        w.course(0);
        w.add(2, 0);
        w.add(2, 1);
        w.fork(2, 0, 3);
        w.fork(2, 1, 2);
        w.team(2, 2);
        w.team(2, 2);
        w.runs(0, 0, 1);
        w.runs(0, 1, 2);
        w.runs(1, 0, 3);
        CHECK.due("as many branches, but other legs between", false, () -> w.isFair());
        ControlWood z = wood();
        z.control(4, 1, 0);
        z.course(0);
        z.add(2, 0);
        z.fork(2, 0, 4);
        z.team(2, 1);
        z.team(2, 1);
        z.runs(1, 0, 1);
        CHECK.due("another control in the same cell", true, () -> z.isFair());
        // There and back are two legs: 0 to 4 to 24 and 0 to 24 to 4 differ.
        ControlWood y = wood();
        y.course(0);
        y.add(2, 0);
        y.add(2, 1);
        y.fork(2, 0, 1);
        y.fork(2, 1, 0);
        y.team(2, 1);
        y.team(2, 1);
        y.runs(1, 0, 3);
        CHECK.due("the other way round", false, () -> y.isFair());
    }

    private static void isFairAsTheCourseIsNow() {
        ControlWood w = wood();
        w.course(0);
        w.add(2, 1);
        w.add(2, 0);
        w.fork(2, 1, 3);
        w.team(2, 1);
        w.team(2, 1);
        w.runs(0, 0, 1);
        CHECK.due("unlike", false, () -> w.isFair());
        w.fork(2, 0, 2);
        w.runs(1, 0, 2);
        CHECK.due("the lowest bit is that of place 0 now", false, () -> w.isFair());
        w.runs(1, 0, 1);
        CHECK.due("alike", true, () -> w.isFair());
        w.add(2, 2);
        CHECK.due("alike", true, () -> w.isFair());
    }

    private static void fairWays() {
        ControlWood w = wood();
        CHECK.due("without teams", 1, () -> w.fairWays());
        w.team(0, 3);
        CHECK.due("all of one team", 64, () -> w.fairWays());
        w.team(0, 2);
        CHECK.due("not as many runs", 0, () -> w.fairWays());
        w.team(0, 1);
        CHECK.due("12 bits, none fair", 0, () -> w.fairWays());
        w.team(0, 1);
        CHECK.fails(UNSUPPORTED, "14 bits", () -> w.fairWays());
        w.team(1, 3);
        for (int i = 1; i < 6; i++) {
            CHECK.due("no forks", 1, () -> w.fairWays());
            w.team(1, 3);
        }
        CHECK.due("no forks, six teams", 1, () -> w.fairWays());
        w.runs(0, 0, 0);
        w.team(0, 3);
        w.team(0, 3);
        w.runs(0, 1, 3);
        // The forks do not touch, so each alone is fair in 1 + 9 + 9 + 1 ways.
        CHECK.due("two teams of three runs", 400, () -> w.fairWays());
        CHECK.due("the branches stay", 3, () -> w.runs(0, 1, 3));
        fairWaysOfSixTeams();
    }

    private static void fairWaysOfSixTeams() {
        ControlWood w = wood();
        w.course(0);
        w.add(2, 0);
        w.fork(2, 0, 1);
        for (int i = 0; i < 6; i++) {
            w.team(2, 2);
        }
        CHECK.due("one each is fair in 2 ways", 66, () -> w.fairWays());
        ControlWood z = wood();
        z.course(0);
        z.add(2, 0);
        z.fork(2, 0, 1);
        for (int i = 0; i < 4; i++) {
            z.team(2, 3);
        }
        CHECK.due("four teams of three runs", 1 + 81 + 81 + 1, () -> z.fairWays());
        z.team(2, 1);
        CHECK.fails(UNSUPPORTED, "13 bits", () -> z.fairWays());
    }

    private static void changeover() {
        ControlWood w = new ControlWood();
        CHECK.due("first run", 100, () -> w.changeover(0, 100, 50, 20));
        CHECK.due("second run", 150, () -> w.changeover(1, 100, 50, -1));
        CHECK.due("from 0 on", 7, () -> w.changeover(1, 0, 7, -1));
        CHECK.due("third run", 200, () -> w.changeover(2, 100, 50, -1));
        CHECK.due("restart of the third", 160, () -> w.changeover(2, 100, 50, 160));
        CHECK.due("restart of both", 120, () -> w.changeover(2, 100, 50, 120));
        CHECK.due("restart too late", 150, () -> w.changeover(1, 100, 50, 150));
        CHECK.due("restart too late", 150, () -> w.changeover(1, 100, 50, 151));
        CHECK.due("restart a second earlier", 149, () -> w.changeover(1, 100, 50, 149));
        CHECK.due("restart at 0", 0, () -> w.changeover(2, 100, 0, 0));
        CHECK.due("above 99999", 299997, () -> w.changeover(2, 99999, 99999, -1));
        int[][] wrong = {{-1, 0, 0, 0}, {3, 0, 0, 0}, {0, -1, 0, 0}, {0, 100000, 0, 0}, {0, 0, -1, 0},
            {0, 0, 100000, 0}, {0, 0, 0, -2}, {0, 0, 0, 100000}};
        for (int[] one : wrong) {
            CHECK.fails(ARGUMENT, "changeover", () -> w.changeover(one[0], one[1], one[2], one[3]));
        }
    }

    private static void chase() {
        ControlWood w = wood();
        int[] finishes = {500, 300, 500, 300, 900};
        for (int i = 0; i < 5; i++) {
            int runner = w.runner(9 - i, 1);
            w.start(runner, 0);
            w.finish(runner, finishes[i]);
        }
        w.runner(0, 1);
        w.cell(7, 0, 0, 'x');
        w.fix(4, 7, 7);
        CHECK.due("four", 4, () -> w.chase(1, 0, 9999));
        int[] starts = {9999, 9999, 10199, 10199};
        for (int i = 0; i < 4; i++) {
            int runner = 6 + i;
            CHECK.due("start of " + runner, starts[i], () -> w.startOf(runner));
            CHECK.due("state of " + runner, 'r', () -> w.state(runner));
            CHECK.due("branches of " + runner, 0, () -> w.branches(runner, 3));
            CHECK.due("no ruling for " + runner, starts[runner - 6], () -> w.rule(runner, -1));
        }
        CHECK.fails(INDEX, "no fifth", () -> w.state(10));
        CHECK.due("share", 4f / 6f, () -> w.okShare(1));
        // By the clubs 8, 6, 9, 7 the draw parts nobody, but it sees them on the course.
        CHECK.due("entered for the other", 4, () -> w.draw(0, 3, 0, 10));
        ControlWood z = wood();
        int runner = z.runner(5, 1);
        z.start(runner, 99999);
        z.finish(runner, 99999);
        z.rule(runner, 0);
        int other = z.runner(5, 1);
        z.start(other, 0);
        z.finish(other, 0);
        z.rule(other, 99999);
        CHECK.due("far behind", 2, () -> z.chase(1, 1, 3));
        CHECK.due("the best first, below 0", 3, () -> z.startOf(2));
        CHECK.due("above 99999", 200001, () -> z.startOf(3));
        CHECK.fails(ARGUMENT, "no punch so late", () -> z.punch(3, 0, 99999));
        CHECK.fails(ARGUMENT, "no punch above 99999", () -> z.punch(3, 0, 200001));
        CHECK.fails(ARGUMENT, "no finish above 99999", () -> z.finish(3, 200001));
    }

    /** Of the new ones the draw tells the clubs, so it must go as with those entered one by one. */
    private static void chaseInOrder() {
        int[] finishes = {900, 500, 700, 500, 300, 900};
        int[] clubs = {1, 2, 1, 3, 1, 2};
        int[] order = {4, 1, 3, 2, 0, 5};
        for (int seed = 0; seed < 40; seed++) {
            ControlWood w = wood();
            ControlWood z = wood();
            for (int i = 0; i < 6; i++) {
                finished(w, clubs[i], finishes[i]);
                finished(z, clubs[i], finishes[i]);
            }
            CHECK.due("six", 6, () -> w.chase(1, 0, 50));
            for (int i = 0; i < 6; i++) {
                int runner = 6 + i;
                z.runner(clubs[order[i]], 0);
                int due = 50 + finishes[order[i]] - 300;
                CHECK.due("start of " + runner, due, () -> w.startOf(runner));
            }
            w.draw(0, seed, 0, 1);
            z.draw(0, seed, 0, 1);
            for (int runner = 6; runner < 12; runner++) {
                int one = runner;
                int due = z.startOf(runner);
                CHECK.due("drawn with " + seed + ", start of " + runner, due, () -> w.startOf(one));
            }
        }
    }

    private static void finished(ControlWood w, int club, int finish) {
        int runner = w.runner(club, 1);
        w.start(runner, 0);
        w.finish(runner, finish);
    }

    private static void chaseRefuses() {
        ControlWood w = wood();
        CHECK.fails(INDEX, "course 2", () -> w.chase(2, 0, -1));
        CHECK.fails(INDEX, "course -1", () -> w.chase(-1, 0, 0));
        CHECK.fails(INDEX, "other 2", () -> w.chase(0, 2, 0));
        CHECK.fails(INDEX, "other -1", () -> w.chase(0, -1, 0));
        CHECK.fails(ARGUMENT, "first -1", () -> w.chase(0, 1, -1));
        CHECK.fails(ARGUMENT, "first 10000", () -> w.chase(0, 1, 10000));
        CHECK.due("nobody", 0, () -> w.chase(1, 0, 0));
        for (int i = 0; i < 7; i++) {
            int runner = w.runner(i, 1);
            w.start(runner, i);
            if (i < 6) {
                w.finish(runner, 100);
            }
        }
        CHECK.fails(STATE, "there would be 13", () -> w.chase(1, 0, 0));
        CHECK.fails(ARGUMENT, "there would be 13, first -1", () -> w.chase(1, 0, -1));
        w.cell(7, 0, 0, 'x');
        w.fix(0, 7, 7);
        CHECK.due("12 at last", 5, () -> w.chase(1, 0, 0));
        CHECK.due("nobody, with 12", 0, () -> w.chase(0, 1, 0));
        CHECK.fails(STATE, "full", () -> w.chase(1, 0, 0));
    }

    private static void score() {
        ControlWood w = new ControlWood();
        w.control(2, 0, 10);
        w.control(4, 0, 25);
        w.control(20, 0, 30);
        CHECK.due("too short", 0, () -> w.score(0, 39, 1000));
        CHECK.due("there and back", 10, () -> w.score(0, 40, 1000));
        CHECK.due("too short", 10, () -> w.score(0, 79, 1000));
        CHECK.due("two on one way", 35, () -> w.score(0, 80, 1000));
        CHECK.due("not the third", 35, () -> w.score(0, 119, 1000));
        CHECK.due("all", 65, () -> w.score(0, 160, 1000));
        CHECK.due("all but one", 40, () -> w.score(0, 159, 1000));
        CHECK.due("at twice the pace", 40, () -> w.score(0, 60, 500));
        CHECK.due("on a control", 10, () -> w.score(2, 0, 9999));
        CHECK.due("no cost", 65, () -> w.score(24, 9999, 1));
        CHECK.fails(INDEX, "cell 25", () -> w.score(25, -1, 1));
        CHECK.fails(INDEX, "cell -1", () -> w.score(-1, 0, 1));
        int[][] wrong = {{-1, 1}, {10000, 1}, {0, 0}, {0, 10000}, {0, -1}};
        for (int[] one : wrong) {
            CHECK.fails(ARGUMENT, "score", () -> w.score(0, one[0], one[1]));
        }
    }

    private static void scoreByLand() {
        ControlWood w = new ControlWood();
        w.land(3, 3);
        w.control(8, 0, 50);
        w.control(1, 0, 7);
        w.cell(8, 0, 9, '.');
        CHECK.due("too steep", 7, () -> w.score(0, 133, 1000));
        CHECK.due("up and down", 57, () -> w.score(0, 134, 1000));
        w.show(1, 9, 'w');
        w.show(3, 9, 'w');
        CHECK.due("the map does not matter", 57, () -> w.score(0, 134, 1000));
        w.cell(1, 0, 0, 'w');
        CHECK.due("in water", 50, () -> w.score(0, 9999, 1000));
        CHECK.due("from the control in water there is no way back", 7, () -> w.score(1, 9999, 1000));
        w.cell(0, 0, 0, 'w');
        CHECK.due("no way back to the start", 0, () -> w.score(0, 9999, 1000));
        w.cell(0, 0, 0, 'x');
        CHECK.due("out of bounds", 50, () -> w.score(0, 9999, 1000));
    }

    private static void scoreCutsEachWay() {
        ControlWood w = new ControlWood();
        w.control(1, 0, 0);
        w.control(2, 0, 60);
        // Each way of 10 takes 1.5 seconds, cut to 1; the one of 20 takes 3.
        CHECK.due("over the control between", 60, () -> w.score(0, 5, 150));
        CHECK.due("no further", 0, () -> w.score(0, 4, 150));
        CHECK.due("at no seconds", 60, () -> w.score(0, 0, 49));
        CHECK.due("at one second each, straight", 60, () -> w.score(0, 1, 50));
        CHECK.due("not at none", 0, () -> w.score(0, 0, 50));
        for (int i = 2; i < 12; i++) {
            w.control(24, i % 4, 99);
        }
        CHECK.due("all twelve", 60 + 990, () -> w.score(24, 9999, 1000));
        CHECK.due("those in the cell", 990, () -> w.score(24, 0, 9999));
    }

    private static void late() {
        ControlWood w = new ControlWood();
        CHECK.due("in time", 50, () -> w.late(50, 0, 10));
        CHECK.due("begun", 40, () -> w.late(50, 1, 10));
        CHECK.due("one minute", 40, () -> w.late(50, 60, 10));
        CHECK.due("two begun", 30, () -> w.late(50, 61, 10));
        CHECK.due("two", 30, () -> w.late(50, 120, 10));
        CHECK.due("at least 0", 0, () -> w.late(50, 9999, 99));
        CHECK.due("all of them", 9999 - 167 * 59, () -> w.late(9999, 9999, 59));
        CHECK.due("none to lose", 0, () -> w.late(0, 0, 0));
        CHECK.due("nothing for it", 9999, () -> w.late(9999, 9999, 0));
        int[][] wrong = {{-1, 0, 0}, {10000, 0, 0}, {0, -1, 0}, {0, 10000, 0}, {0, 0, -1}, {0, 0, 100}};
        for (int[] one : wrong) {
            CHECK.fails(ARGUMENT, "late", () -> w.late(one[0], one[1], one[2]));
        }
    }

    private static void fix() {
        ControlWood w = wood();
        w.runner(0, 1);
        CHECK.fails(INDEX, "runner 1", () -> w.fix(1, 0, 0));
        CHECK.fails(INDEX, "runner -1", () -> w.fix(-1, 0, 0));
        CHECK.fails(INDEX, "cell 25", () -> w.fix(0, 25, -1));
        CHECK.fails(INDEX, "cell -1", () -> w.fix(0, -1, 0));
        CHECK.fails(ARGUMENT, "-1", () -> w.fix(0, 4, -1));
        CHECK.due("first", 1, () -> w.fix(0, 0, 0));
        CHECK.fails(ARGUMENT, "not above", () -> w.fix(0, 4, 0));
        CHECK.fails(ARGUMENT, "below", () -> w.fix(0, 4, -1));
        for (int i = 2; i <= 11; i++) {
            int count = i;
            CHECK.due("fix " + i, count, () -> w.fix(0, 0, count));
        }
        CHECK.due("the last one", 12, () -> w.fix(0, 0, Integer.MAX_VALUE));
        CHECK.fails(ARGUMENT, "not above", () -> w.fix(0, 4, Integer.MAX_VALUE));
        ControlWood z = wood();
        z.runner(0, 1);
        for (int i = 0; i < 12; i++) {
            z.fix(0, 0, i);
        }
        CHECK.fails(STATE, "there are 12", () -> z.fix(0, 4, 12));
        CHECK.fails(ARGUMENT, "there are 12, and not above", () -> z.fix(0, 4, 11));
        CHECK.fails(INDEX, "there are 12, cell 25", () -> z.fix(0, 25, 12));
    }

    private static void mayHave() {
        ControlWood w = wood();
        w.runner(0, 1);
        w.runner(0, 1);
        CHECK.due("no track", false, () -> w.mayHave(0, 0));
        w.fix(0, 0, 5);
        CHECK.due("one fix", false, () -> w.mayHave(0, 0));
        w.fix(0, 2, 64);
        CHECK.due("by 59 seconds", false, () -> w.mayHave(0, 0));
        w.fix(1, 0, 5);
        w.fix(1, 2, 65);
        CHECK.due("by 60 seconds", true, () -> w.mayHave(1, 0));
        CHECK.due("to 12 and back to 2", true, () -> w.mayHave(1, 3));
        CHECK.due("to 24", false, () -> w.mayHave(1, 1));
        w.fix(1, 24, 66);
        CHECK.due("a fix there", true, () -> w.mayHave(1, 1));
        w.fix(1, 0, 67);
        w.fix(1, 0, 70);
        CHECK.due("between fixes that follow each other alone", false, () -> w.mayHave(1, 2));
        w.fix(1, 0, 150);
        CHECK.due("there and back", true, () -> w.mayHave(1, 2));
        CHECK.fails(INDEX, "runner 2", () -> w.mayHave(2, 0));
        CHECK.fails(INDEX, "runner -1", () -> w.mayHave(-1, 0));
        CHECK.fails(INDEX, "control 4", () -> w.mayHave(0, 4));
        CHECK.fails(INDEX, "control -1", () -> w.mayHave(0, -1));
    }

    private static void mayHaveByLand() {
        ControlWood w = new ControlWood();
        w.land(3, 3);
        w.control(2, 0, 0);
        w.course(0);
        w.runner(0, 0);
        w.fix(0, 0, 0);
        w.fix(0, 1, 84);
        w.cell(2, 0, 9, '.');
        w.show(2, 9, 'w');
        CHECK.due("up and down in 84", true, () -> w.mayHave(0, 0));
        w.cell(2, 1, 9, '.');
        CHECK.due("not in 84", false, () -> w.mayHave(0, 0));
        w.cell(2, 0, 9, 'x');
        CHECK.due("out of bounds", true, () -> w.mayHave(0, 0));
        w.cell(2, 0, 0, 'w');
        w.fix(0, 0, Integer.MAX_VALUE);
        CHECK.due("never into water", false, () -> w.mayHave(0, 0));
        w.cell(2, 0, 0, '.');
        CHECK.due("in all the time", true, () -> w.mayHave(0, 0));
        w.cell(0, 0, 0, 'w');
        w.cell(1, 0, 0, 'w');
        CHECK.due("fixes in water, no way back", false, () -> w.mayHave(0, 0));
    }
}
