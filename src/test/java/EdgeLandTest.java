/** The boundary cases of promises 1 to 7 and of the paragraph on land. */
public final class EdgeLandTest {
    private static final Check CHECK = new Check();
    private static final Edge NEW = new Edge(CHECK, ControlWood::new);
    private static final int[] SIDES_OUTSIDE = {2, 13, 1, 0, -1, -3, Integer.MIN_VALUE, Integer.MAX_VALUE};
    private static final char[] NO_KINDS = {'v', 'y', 'W', 'X', '-', '/', ' ', 'o', 0, '\u012e', '\u0177', '\uffff'};

    public static void main(String[] args) {
        promise1Land();
        promise1NothingYet();
        promise2Sizes();
        promise2AllGone();
        promise2MostFitAgain();
        promise2NothingStays();
        promise3();
        promise3Order();
        promise3Costs();
        promise4();
        promise5();
        promise6();
        promise6FirstCellAside();
        promise6NoWay();
        promise6Longest();
        promise7();
        promise7NoWay();
        promise7FirstByItsCells();
        CHECK.end();
    }

    private static void promise1Land() {
        NEW.due("1: 5 columns, along a row", 40, w -> w.cost(0, 4, false));
        NEW.due("1: 5 columns, the next cell is in the next row", 50, w -> w.cost(4, 5, false));
        NEW.due("1: 5 rows, along a column", 40, w -> w.cost(0, 20, false));
        NEW.due("1: the last cell", 80, w -> w.cost(0, 24, false));
        NEW.refused("1: there is no cell 25", Edge.INDEX, w -> w.cost(0, 25, false));
        for (int i = 0; i < 25; i++) {
            int cell = i;
            NEW.due("1: growth 0 at first", 0, w -> w.cell(cell, 9, 9, 'w'));
            NEW.due("1: growth 0 on the map at first", 0, w -> w.show(cell, 9, 'w'));
            NEW.due("1: height 0 and open at first", 10, w -> w.cost(cell % 5 == 0 ? cell + 1 : cell - 1, cell, false));
            NEW.due("1: open on the map at first", 10, w -> w.cost(cell % 5 == 0 ? cell + 1 : cell - 1, cell, true));
        }
        NEW.due("1: the map is printed", 0, w -> w.print());
    }

    private static void promise1NothingYet() {
        NEW.refused("1: no control", Edge.INDEX, w -> w.areNear(0, 0));
        NEW.refused("1: no control", Edge.INDEX, w -> w.dead(0, 0, 0));
        NEW.refused("1: no control", Edge.INDEX, w -> w.stolen(0, -1));
        NEW.refused("1: no course", Edge.INDEX, w -> w.add(0, 0));
        NEW.refused("1: no course", Edge.INDEX, w -> w.fork(0, 0, 0));
        NEW.refused("1: no course", Edge.INDEX, w -> w.isLawful(0));
        NEW.refused("1: no course", Edge.INDEX, w -> w.lengthOf(0));
        NEW.refused("1: no course", Edge.INDEX, w -> w.runner(0, 0));
        NEW.refused("1: no course", Edge.INDEX, w -> w.draw(0, 0, 0, 0));
        NEW.refused("1: no course", Edge.INDEX, w -> w.voided(0, 0, true));
        NEW.refused("1: no course", Edge.INDEX, w -> w.team(0, 1));
        NEW.refused("1: no course", Edge.INDEX, w -> w.chase(0, 0, 0));
        NEW.refused("1: no course", Edge.INDEX, w -> w.okShare(0));
        NEW.refused("1: no course", Edge.INDEX, w -> w.meanTime(0));
        NEW.refused("1: no runner", Edge.INDEX, w -> w.branches(0, 0));
        NEW.refused("1: no runner", Edge.INDEX, w -> w.start(0, 0));
        NEW.refused("1: no runner", Edge.INDEX, w -> w.startOf(0));
        NEW.refused("1: no runner", Edge.INDEX, w -> w.punch(0, 0, 0));
        NEW.refused("1: no runner", Edge.INDEX, w -> w.finish(0, 0));
        NEW.refused("1: no runner", Edge.INDEX, w -> w.rule(0, 0));
        NEW.refused("1: no runner", Edge.INDEX, w -> w.state(0));
        NEW.refused("1: no runner", Edge.INDEX, w -> w.time(0));
        NEW.refused("1: no runner", Edge.INDEX, w -> w.split(0, 0));
        NEW.refused("1: no runner", Edge.INDEX, w -> w.place(0));
        NEW.refused("1: no runner", Edge.INDEX, w -> w.reference(0, 0));
        NEW.refused("1: no runner", Edge.INDEX, w -> w.pace(0));
        NEW.refused("1: no runner", Edge.INDEX, w -> w.loss(0, 0));
        NEW.refused("1: no runner", Edge.INDEX, w -> w.points(0));
        NEW.refused("1: no runner", Edge.INDEX, w -> w.fix(0, 0, 0));
        NEW.refused("1: no runner", Edge.INDEX, w -> w.mayHave(0, 0));
        NEW.refused("1: no team", Edge.INDEX, w -> w.runs(0, 0, 0));
        NEW.due("1: without teams", true, w -> w.isFair());
        NEW.due("1: without teams", 1, w -> w.fairWays());
        NEW.due("1: without controls", 0, w -> w.score(0, 9999, 1));
        NEW.due("1: without punches", 7L, w -> w.checksum());
        NEW.due("1: without runners", true, w -> w.isSound());
    }

    private static void promise2Sizes() {
        for (int[] size : new int[][] {{3, 3}, {12, 12}, {3, 12}, {12, 3}, {5, 4}, {4, 5}}) {
            int cells = size[0] * size[1];
            String name = "2: land(" + size[0] + ", " + size[1] + ")";
            NEW.due(name, cells, w -> w.land(size[0], size[1]));
            Edge land = new Edge(CHECK, () -> sized(size[0], size[1]));
            land.due(name + ", the last cell", 0, w -> w.cell(cells - 1, 0, 0, '.'));
            land.refused(name + ", none behind it", Edge.INDEX, w -> w.cell(cells, 0, 0, '.'));
            land.due(name + ", along a row", 10 * (size[0] - 1), w -> w.cost(0, size[0] - 1, false));
            land.due(name + ", to the next row", 10, w -> w.cost(0, size[0], false));
            land.due(name + ", not across the edge", 10 * size[0], w -> w.cost(size[0] - 1, size[0], true));
            land.due(name + ", to the last row", 10 * (size[1] - 1), w -> w.cost(0, cells - size[0], true));
        }
        for (int wrong : SIDES_OUTSIDE) {
            NEW.refused("2: columns " + wrong, Edge.ARGUMENT, w -> w.land(wrong, 5));
            NEW.refused("2: rows " + wrong, Edge.ARGUMENT, w -> w.land(5, wrong));
            NEW.refused("2: both " + wrong, Edge.ARGUMENT, w -> w.land(wrong, wrong));
        }
        Edge used = new Edge(CHECK, EdgeLandTest::used);
        used.refused("2: columns 2, with all there is", Edge.ARGUMENT, w -> w.land(2, 5));
        used.refused("2: columns 13, with all there is", Edge.ARGUMENT, w -> w.land(13, 5));
        used.refused("2: rows 2, with all there is", Edge.ARGUMENT, w -> w.land(5, 2));
        used.refused("2: rows 13, with all there is", Edge.ARGUMENT, w -> w.land(5, 13));
        used.refused("2: an area of 25, but no such side", Edge.ARGUMENT, w -> w.land(1, 25));
    }

    private static ControlWood sized(int columns, int rows) {
        ControlWood w = new ControlWood();
        w.land(columns, rows);
        return w;
    }

    /** Some of everything that a land can have. */
    private static ControlWood used() {
        ControlWood w = RunnerTest.wood();
        w.cell(8, 4, 5, 'x');
        w.cell(9, 4, 5, 'w');
        w.show(7, 7, 'w');
        w.voided(0, 0, true);
        w.stolen(2, 5);
        w.dead(1, 0, 100);
        for (int runner = 0; runner < 3; runner++) {
            w.runner(3 * runner, runner / 2);
        }
        w.branches(0, 3);
        w.start(0, 10);
        w.punch(0, 0, 10);
        w.punch(0, 3, 20);
        w.start(2, 30);
        w.finish(2, 40);
        w.rule(2, 20);
        w.fix(1, 7, 8);
        w.team(0, 2);
        w.runs(0, 1, 2);
        return w;
    }

    private static void promise2AllGone() {
        Edge again = new Edge(CHECK, EdgeLandTest::used).with(w -> w.land(5, 5));
        boolean isAsNew = Probe.of(EdgeLandTest::usedAndBegun).equals(Probe.of(ControlWood::new));
        CHECK.holds("2: with a land all is as in a new object", isAsNew);
        again.refused("2: controls are gone", Edge.INDEX, w -> w.areNear(0, 0));
        again.refused("2: courses are gone", Edge.INDEX, w -> w.lengthOf(0));
        again.refused("2: runners are gone", Edge.INDEX, w -> w.state(0));
        again.refused("2: teams are gone", Edge.INDEX, w -> w.runs(0, 0, 0));
        again.due("2: the map is printed", 0, w -> w.print());
        again.due("2: growth 0 at first", 0, w -> w.cell(8, 0, 0, '.'));
        again.due("2: punches are gone", 7L, w -> w.checksum());
    }

    private static ControlWood usedAndBegun() {
        ControlWood w = used();
        w.land(5, 5);
        return w;
    }

    private static void promise2MostFitAgain() {
        Edge full = new Edge(CHECK, EdgeLandTest::full).with(w -> w.land(4, 4));
        full.due("2: controls from 0 on", 0, w -> w.control(15, 0, 0));
        full.due("2: courses from 0 on", 0, w -> w.course(15));
        Edge fullAgain = new Edge(CHECK, () -> {
            ControlWood w = full();
            w.land(5, 5);
            fill(w);
            return w;
        });
        fullAgain.refused("2: 12 controls fit again, no more", Edge.STATE, w -> w.control(0, 0, 0));
        fullAgain.refused("2: 6 courses fit again, no more", Edge.STATE, w -> w.course(0));
        fullAgain.refused("2: 12 runners fit again, no more", Edge.STATE, w -> w.runner(0, 0));
        fullAgain.refused("2: 6 teams fit again, no more", Edge.STATE, w -> w.team(5, 1));
        Edge voids = new Edge(CHECK, () -> {
            ControlWood w = new ControlWood();
            for (int round = 0; round < 2; round++) {
                w.land(5, 5);
                w.control(0, 0, 0);
                w.course(0);
                for (int i = 0; i < 9; i++) {
                    w.add(0, 0);
                }
                for (int leg = 0; round == 0 && leg < 10; leg++) {
                    w.voided(0, leg, true);
                }
            }
            return w;
        });
        for (int i = 0; i < 10; i++) {
            int leg = i;
            voids.due("2: no leg is void anew, " + leg, false, w -> w.voided(0, leg, true));
        }
    }

    /** Numbers that are given anew bring nothing of those that had them ahead of the land. */
    private static void promise2NothingStays() {
        boolean isAsNew = Probe.of(() -> {
            ControlWood w = used();
            w.start(1, 3);
            w.punch(1, 0, 10);
            w.finish(1, 20);
            w.rule(1, 9);
            w.land(5, 5);
            begun(w);
            return w;
        }).equals(Probe.of(() -> {
            ControlWood w = new ControlWood();
            begun(w);
            return w;
        }));
        CHECK.holds("2: with the same calls behind a land all is as in a new object", isAsNew);
    }

    private static void begun(ControlWood w) {
        for (int i = 0; i < 4; i++) {
            w.control(6 * i, 0, 9);
        }
        for (int course = 0; course < 2; course++) {
            w.course(24);
            w.add(course, 0);
            w.add(course, 1);
        }
        w.fork(0, 1, 2);
        for (int i = 0; i < 3; i++) {
            w.runner(0, 0);
        }
        w.team(0, 2);
    }

    private static ControlWood full() {
        ControlWood w = new ControlWood();
        fill(w);
        return w;
    }

    private static void fill(ControlWood w) {
        for (int i = 0; i < 12; i++) {
            CHECK.due("2: control " + i, i, told(w.control(i, i % 4, i)));
        }
        for (int i = 0; i < 6; i++) {
            CHECK.due("2: course " + i, i, told(w.course(i)));
        }
        for (int i = 0; i < 12; i++) {
            CHECK.due("2: runner " + i, i, told(w.runner(i % 10, i % 6)));
        }
        for (int i = 0; i < 6; i++) {
            CHECK.due("2: team " + i, i, told(w.team(5, 3)));
        }
    }

    private static Check.Call told(int answer) {
        return () -> answer;
    }

    private static void promise3() {
        for (int i : new int[] {0, 24}) {
            int cell = i;
            NEW.due("3: cell " + i, 0, w -> w.cell(cell, 5, 5, '.'));
            Edge grown = NEW.with(w -> w.cell(cell, 9, 9, 'w'));
            grown.due("3: the growth before", 9, w -> w.cell(cell, 0, 0, '.'));
            Edge bare = grown.with(w -> w.cell(cell, 0, 0, 'x'));
            bare.due("3: the growth before", 0, w -> w.cell(cell, 9, 9, '.'));
        }
        NEW.refusedOutside("3: cell", Edge.INDEX, 0, 24, (w, cell) -> w.cell(cell, 0, 0, '.'));
        NEW.refusedOutside("3: growth", Edge.ARGUMENT, 0, 9, (w, growth) -> w.cell(12, growth, 0, '.'));
        NEW.refusedOutside("3: height", Edge.ARGUMENT, 0, 9, (w, height) -> w.cell(12, 0, height, '.'));
        Edge used = NEW.with(w -> w.cell(12, 3, 4, 'x'));
        for (char kind : NO_KINDS) {
            used.refused("3: kind " + (int) kind, Edge.ARGUMENT, w -> w.cell(12, 5, 6, kind));
            NEW.refused("3: kind " + (int) kind, Edge.ARGUMENT, w -> w.cell(12, 0, 0, kind));
        }
        used.refused("3: growth 10", Edge.ARGUMENT, w -> w.cell(12, 10, 6, 'w'));
        used.refused("3: height 10", Edge.ARGUMENT, w -> w.cell(12, 5, 10, 'w'));
    }

    private static void promise3Order() {
        NEW.refused("3: no such cell ahead of growth", Edge.INDEX, w -> w.cell(25, 10, 0, '.'));
        NEW.refused("3: no such cell ahead of growth", Edge.INDEX, w -> w.cell(-1, -1, 0, '.'));
        NEW.refused("3: no such cell ahead of height", Edge.INDEX, w -> w.cell(25, 0, 10, '.'));
        NEW.refused("3: no such cell ahead of height", Edge.INDEX, w -> w.cell(-1, 0, -1, '.'));
        NEW.refused("3: no such cell ahead of kind", Edge.INDEX, w -> w.cell(25, 0, 0, '?'));
        NEW.refused("3: no such cell ahead of all", Edge.INDEX, w -> w.cell(-1, 10, 10, '?'));
        NEW.refused("3: all numbers wrong", Edge.ARGUMENT, w -> w.cell(0, 10, 10, '?'));
    }

    private static void promise3Costs() {
        for (int i : new int[] {0, 1, 9}) {
            int number = i;
            NEW.with(w -> w.cell(12, number, 0, '.')).due("3: growth " + i, 10 + 5 * i, w -> w.cost(11, 12, false));
            Edge high = NEW.with(w -> w.cell(12, 0, number, '.'));
            high.due("3: height " + i, 10 + 6 * i, w -> w.cost(11, 12, false));
            high.due("3: down costs nothing more", 10, w -> w.cost(12, 11, false));
        }
        Edge level = NEW.with(w -> w.cell(12, 0, 9, '.')).with(w -> w.cell(11, 0, 9, '.'));
        level.due("3: as high", 10, w -> w.cost(11, 12, false));
        NEW.with(w -> w.cell(12, 9, 9, 'x')).due("3: the dearest step", 109, w -> w.cost(11, 12, false));
    }

    private static void promise4() {
        NEW.due("4: nothing", 0, w -> w.print());
        Edge all = NEW.with(w -> {
            for (int cell = 0; cell < 25; cell++) {
                w.cell(cell, 1, 0, '.');
            }
        });
        all.due("4: all", 25, w -> w.print());
        all.with(w -> w.print()).due("4: as before", 0, w -> w.print());
        Edge largest = new Edge(CHECK, () -> sized(12, 12)).with(w -> {
            for (int cell = 0; cell < 144; cell++) {
                w.cell(cell, 0, 0, 'x');
            }
        });
        largest.due("4: all of the most cells", 144, w -> w.print());
        NEW.with(w -> w.cell(0, 1, 0, '.')).due("4: the growth of the first", 1, w -> w.print());
        NEW.with(w -> w.cell(24, 0, 0, 'w')).due("4: the kind of the last", 1, w -> w.print());
        NEW.with(w -> w.cell(7, 9, 9, 'x')).due("4: both count once", 1, w -> w.print());
        NEW.with(w -> w.cell(7, 0, 9, '.')).due("4: heights are not shown", 0, w -> w.print());
        NEW.with(w -> w.show(7, 3, '.')).due("4: what was told", 1, w -> w.print());
        NEW.with(w -> w.show(7, 0, 'x')).due("4: what was told", 1, w -> w.print());
        Edge same = NEW.with(w -> w.show(7, 3, 'x')).with(w -> w.cell(7, 3, 0, 'x'));
        same.due("4: told as the land is", 0, w -> w.print());
        Edge back = NEW.with(w -> w.cell(7, 3, 0, 'x')).with(w -> w.cell(7, 0, 0, '.'));
        back.due("4: as it was", 0, w -> w.print());
    }

    private static void promise5() {
        for (int i : new int[] {0, 24}) {
            int cell = i;
            NEW.due("5: cell " + i, 0, w -> w.show(cell, 9, 'w'));
            Edge shown = NEW.with(w -> w.show(cell, 9, 'x'));
            shown.due("5: the growth that was shown", 9, w -> w.show(cell, 0, '.'));
            shown.with(w -> w.show(cell, 0, '.')).due("5: the growth that was shown", 0, w -> w.show(cell, 9, '.'));
            shown.due("5: the land is as it was", 0, w -> w.cell(cell, 1, 0, '.'));
        }
        NEW.refusedOutside("5: cell", Edge.INDEX, 0, 24, (w, cell) -> w.show(cell, 0, '.'));
        NEW.refusedOutside("5: growth", Edge.ARGUMENT, 0, 9, (w, growth) -> w.show(12, growth, '.'));
        Edge used = NEW.with(w -> w.show(12, 3, 'x'));
        for (char kind : NO_KINDS) {
            used.refused("5: kind " + (int) kind, Edge.ARGUMENT, w -> w.show(12, 5, kind));
            NEW.refused("5: kind " + (int) kind, Edge.ARGUMENT, w -> w.show(12, 0, kind));
        }
        used.refused("5: growth 10", Edge.ARGUMENT, w -> w.show(12, 10, '.'));
        NEW.refused("5: no such cell ahead of growth", Edge.INDEX, w -> w.show(25, 10, '.'));
        NEW.refused("5: no such cell ahead of kind", Edge.INDEX, w -> w.show(-1, 0, '?'));
        NEW.refused("5: no such cell ahead of both", Edge.INDEX, w -> w.show(25, -1, '?'));
        NEW.with(w -> w.show(12, 9, '.')).due("5: the most growth on the map", 55, w -> w.cost(11, 12, true));
    }

    private static void promise6() {
        for (boolean isMap : new boolean[] {false, true}) {
            NEW.due("6: the same, the first", 0, w -> w.cost(0, 0, isMap));
            NEW.due("6: the same, the last", 0, w -> w.cost(24, 24, isMap));
            NEW.due("6: from the first to the last", 80, w -> w.cost(0, 24, isMap));
            NEW.due("6: from the last to the first", 80, w -> w.cost(24, 0, isMap));
            NEW.refusedOutside("6: from", Edge.INDEX, 0, 24, (w, from) -> w.cost(from, 0, isMap));
            NEW.refusedOutside("6: to", Edge.INDEX, 0, 24, (w, to) -> w.cost(0, to, isMap));
            NEW.refused("6: both", Edge.INDEX, w -> w.cost(25, 25, isMap));
        }
        // Round about costs 40; over the cell between 10 more than its growth tells.
        NEW.with(w -> w.cell(1, 3, 0, '.')).due("6: over it", 35, w -> w.cost(0, 2, false));
        NEW.with(w -> w.cell(1, 5, 0, '.')).due("6: as dear as round about", 40, w -> w.cost(0, 2, false));
    }

    private static void promise6FirstCellAside() {
        Edge wet = NEW.with(w -> w.cell(12, 0, 0, 'w'));
        wet.due("6: out of water", 10, w -> w.cost(12, 11, false));
        wet.due("6: water to itself", 0, w -> w.cost(12, 12, false));
        wet.refused("6: into water", Edge.NO_SUCH, w -> w.cost(11, 12, false));
        Edge shut = NEW.with(w -> w.cell(12, 0, 0, 'x'));
        shut.due("6: what is out of bounds can be entered", 10, w -> w.cost(11, 12, false));
        shut.due("6: the map does not show it", 10, w -> w.cost(11, 12, true));
        Edge shown = shut.with(w -> w.print());
        shown.refused("6: on the map not into what is out of bounds", Edge.NO_SUCH, w -> w.cost(11, 12, true));
        shown.due("6: out of it", 10, w -> w.cost(12, 11, true));
        shown.due("6: to itself", 0, w -> w.cost(12, 12, true));
        shown.due("6: on the land", 10, w -> w.cost(11, 12, false));
        Edge wetShown = NEW.with(w -> w.show(12, 0, 'w'));
        wetShown.refused("6: on the map not into water", Edge.NO_SUCH, w -> w.cost(11, 12, true));
        wetShown.due("6: out of it", 10, w -> w.cost(12, 11, true));
        wetShown.due("6: to itself", 0, w -> w.cost(12, 12, true));
        wetShown.due("6: on the land", 10, w -> w.cost(11, 12, false));
    }

    private static void promise6NoWay() {
        Edge parted = NEW.with(w -> {
            for (int cell = 10; cell < 14; cell++) {
                w.cell(cell, 0, 0, 'w');
            }
        });
        parted.due("6: the last gap", 120, w -> w.cost(0, 20, false));
        Edge shut = parted.with(w -> w.cell(14, 0, 0, 'w'));
        shut.refused("6: no gap", Edge.NO_SUCH, w -> w.cost(0, 20, false));
        shut.refused("6: no gap, the other way", Edge.NO_SUCH, w -> w.cost(20, 0, false));
        shut.due("6: from the water up", 20, w -> w.cost(10, 0, false));
        shut.due("6: from the water down", 20, w -> w.cost(10, 20, false));
        shut.due("6: the map knows a way", 40, w -> w.cost(0, 20, true));
        Edge printed = shut.with(w -> w.print());
        printed.refused("6: the map knows none", Edge.NO_SUCH, w -> w.cost(0, 20, true));
    }

    /** On the largest land a way that winds through it, up and down, through the most growth. */
    private static void promise6Longest() {
        Edge winding = new Edge(CHECK, () -> sized(12, 12)).with(w -> {
            for (int cell = 0; cell < 144; cell++) {
                int row = cell / 12;
                int gap = row % 4 == 1 ? 11 : 0;
                boolean isWater = row % 2 == 1 && (row == 11 || cell % 12 != gap);
                w.cell(cell, 9, (row + cell) % 2 * 9, isWater ? 'w' : '.');
            }
        });
        // 76 steps of 55, and 38 of them up by 9.
        int due = 76 * 55 + 38 * 54;
        winding.due("6: the longest way", due, w -> w.cost(0, 120, false));
        winding.due("6: and back", due, w -> w.cost(120, 0, false));
    }

    private static void promise7() {
        NEW.due("7: the same", 0, w -> w.misled(0, 0));
        NEW.due("7: from the first to the last", 80, w -> w.misled(0, 24));
        NEW.refusedOutside("7: from", Edge.INDEX, 0, 24, (w, from) -> w.misled(from, 0));
        NEW.refusedOutside("7: to", Edge.INDEX, 0, 24, (w, to) -> w.misled(0, to));
        Edge wrong = NEW.with(w -> w.cell(1, 9, 9, '.')).with(w -> w.show(1, 0, '.'));
        wrong.due("7: the map knows the land's heights", 40, w -> w.misled(0, 2));
        wrong.due("7: what the land costs, with its height", 109, w -> w.misled(0, 1));
        Edge grown = NEW.with(w -> w.cell(1, 9, 0, '.'));
        grown.due("7: what the land has costs", 65, w -> w.misled(0, 2));
        grown.with(w -> w.print()).due("7: the map knows of it", 40, w -> w.misled(0, 2));
        Edge empty = NEW.with(w -> w.show(1, 9, '.'));
        empty.due("7: round about what is not there", 40, w -> w.misled(0, 2));
        empty.due("7: into what is not there", 10, w -> w.misled(0, 1));
    }

    private static void promise7NoWay() {
        Edge wet = NEW.with(w -> w.cell(12, 0, 0, 'w'));
        wet.refused("7: through water", Edge.NO_SUCH, w -> w.misled(11, 13));
        wet.refused("7: it ends in water", Edge.NO_SUCH, w -> w.misled(11, 12));
        wet.due("7: the first cell aside", 10, w -> w.misled(12, 13));
        wet.due("7: water to itself", 0, w -> w.misled(12, 12));
        Edge crossed = NEW.with(w -> w.cell(12, 0, 0, 'x'));
        crossed.due("7: through what is out of bounds on the land", 20, w -> w.misled(11, 13));
        crossed.with(w -> w.print()).due("7: not on the map", 40, w -> w.misled(11, 13));
        Edge shut = NEW.with(w -> w.show(1, 0, 'x')).with(w -> w.show(5, 0, 'w'));
        shut.refused("7: no way out on the map", Edge.NO_SUCH, w -> w.misled(0, 24));
        shut.refused("7: no way in on the map", Edge.NO_SUCH, w -> w.misled(24, 0));
        shut.due("7: but to itself", 0, w -> w.misled(0, 0));
        shut.due("7: out of water on the map", 20, w -> w.misled(5, 11));
        shut.refused("7: into water on the map", Edge.NO_SUCH, w -> w.misled(6, 5));
        shut.refused("7: into what is out of bounds on the map", Edge.NO_SUCH, w -> w.misled(6, 1));
        Edge tie = NEW.with(w -> w.cell(1, 9, 0, '.')).with(w -> w.show(1, 0, 'x'));
        tie.due("7: not by what the map shuts, if it were as near", 20, w -> w.misled(6, 2));
    }

    private static void promise7FirstByItsCells() {
        Edge uneven = NEW.with(w -> {
            for (int cell = 0; cell < 25; cell++) {
                w.cell(cell, cell % 5 + cell / 5, 0, '.');
            }
            w.cell(6, 9, 0, '.');
        });
        // All ways are alike on the map; the first by its cells goes by 1, not by 5, and by 2, not by 6.
        uneven.due("7: to the right first", 30 + 5 * (1 + 2 + 3), w -> w.misled(0, 7));
        uneven.due("7: up ahead of left", 20 + 5 * (1 + 0), w -> w.misled(6, 0));
        uneven.due("7: up ahead of right", 20 + 5 * (1 + 2), w -> w.misled(6, 2));
        uneven.due("7: left ahead of down", 20 + 5 * (1 + 2), w -> w.misled(6, 10));
        uneven.due("7: right ahead of down", 20 + 5 * (3 + 4), w -> w.misled(6, 12));
        uneven.with(w -> w.print()).due("7: but the best first", 30 + 5 * (1 + 2 + 3), w -> w.misled(0, 7));
        Edge tie = uneven.with(w -> w.cell(2, 9, 0, '.')).with(w -> w.cell(6, 8, 0, '.'));
        tie.with(w -> w.print()).due("7: by 6, which costs less than 2", 30 + 5 * (1 + 8 + 3), w -> w.misled(0, 7));
    }
}
