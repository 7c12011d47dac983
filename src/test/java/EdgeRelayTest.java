/** The boundary cases of promises 34 to 38: relays. */
public final class EdgeRelayTest {
    private static final Check CHECK = new Check();
    /** Controls 0 to 3, course 0 with all of them and forks at places 1 and 3, course 1 without controls. */
    private static final Edge TWO = new Edge(CHECK, RunnerTest::wood);
    /** Course 2 with nine controls and nine forks. */
    private static final Edge NINE = TWO.with(EdgeRelayTest::nine);
    /** Six teams of three runs on course 0. */
    private static final Edge SIX = TWO.with(w -> teams(w, 0, 3, 3, 3, 3, 3, 3));

    public static void main(String[] args) {
        promise34();
        promise34OtherCourse();
        promise34Order();
        promise35();
        promise35Forks();
        promise35Order();
        promise36();
        promise36Most();
        promise36ByTheCourseNow();
        promise37();
        promise37TooMany();
        promise37Uneven();
        promise38();
        promise38Restart();
        promise38Refused();
        CHECK.end();
    }

    private static void nine(ControlWood w) {
        w.course(0);
        for (int place = 0; place < 9; place++) {
            w.add(2, place % 3);
            w.fork(2, place, 3);
        }
    }

    /** Course 2 with as many places, each with a fork. */
    private static void forks(ControlWood w, int count) {
        w.course(0);
        for (int place = 0; place < count; place++) {
            w.add(2, 0);
            w.fork(2, place, 3);
        }
    }

    private static void teams(ControlWood w, int course, int... runs) {
        for (int run : runs) {
            w.team(course, run);
        }
    }

    private static void promise34() {
        TWO.due("34: the first course, one run", 0, w -> w.team(0, 1));
        TWO.due("34: the last course, three runs", 0, w -> w.team(1, 3));
        TWO.refusedOutside("34: course", Edge.INDEX, 0, 1, (w, course) -> w.team(course, 1));
        TWO.refusedOutside("34: runs", Edge.ARGUMENT, 1, 3, (w, runs) -> w.team(0, runs));
        Edge five = TWO.with(w -> teams(w, 0, 3, 3, 3, 3, 3));
        five.due("34: the sixth", 5, w -> w.team(0, 3));
        SIX.refused("34: a seventh", Edge.STATE, w -> w.team(0, 3));
        for (int runs = 1; runs <= 3; runs++) {
            int count = runs;
            Edge one = TWO.with(w -> w.team(0, count));
            one.due("34: the last of " + runs, 0, w -> w.runs(0, count - 1, 3));
            one.refused("34: none behind the last of " + runs, Edge.INDEX, w -> w.runs(0, count, 3));
        }
    }

    private static void promise34OtherCourse() {
        SIX.due("34: on another course the first", 0, w -> w.team(1, 1));
        Edge other = SIX.with(w -> w.team(1, 1));
        other.refused("34: the relay of the other course is gone", Edge.INDEX, w -> w.runs(1, 0, 0));
        other.due("34: it has one run", 0, w -> w.runs(0, 0, 0));
        other.refused("34: it has one run", Edge.INDEX, w -> w.runs(0, 1, 0));
        other.refused("34: the forks are those of the course", Edge.ARGUMENT, w -> w.runs(0, 0, 1));
        other.due("34: a second", 1, w -> w.team(1, 1));
        other.with(w -> teams(w, 1, 1, 1, 1, 1, 1)).refused("34: six again", Edge.STATE, w -> w.team(1, 1));
        Edge back = TWO.with(w -> w.team(0, 1)).with(w -> w.runs(0, 0, 3)).with(w -> w.team(1, 1)).with(w -> w.team(0, 1));
        back.due("34: branches are gone with the relay", 0, w -> w.runs(0, 0, 3));
        back.refused("34: teams are gone with the relay", Edge.INDEX, w -> w.runs(1, 0, 0));
        Edge most = SIX.with(w -> {
            for (int i = 0; i < 18; i++) {
                w.runs(i / 3, i % 3, 3);
            }
            w.team(1, 1);
            teams(w, 0, 3, 3, 3, 3, 3, 3);
        });
        for (int i = 0; i < 18; i++) {
            int team = i / 3;
            int run = i % 3;
            most.due("34: branches are gone with the relay, team " + team, 0, w -> w.runs(team, run, 0));
        }
        Edge told = TWO.with(w -> w.team(0, 1)).with(w -> w.runs(0, 0, 3));
        told.refused("34: a refused one leaves the relay, no such course", Edge.INDEX, w -> w.team(2, 1));
        told.refused("34: a refused one leaves the relay, not so many", Edge.ARGUMENT, w -> w.team(1, 4));
        told.refused("34: a refused one leaves the relay, not so many", Edge.ARGUMENT, w -> w.team(1, 0));
        told.with(w -> w.team(0, 1)).due("34: on the same course it stays", 3, w -> w.runs(0, 0, 3));
    }

    private static void promise34Order() {
        TWO.refused("34: no such course ahead of not so many", Edge.INDEX, w -> w.team(2, 0));
        TWO.refused("34: no such course ahead of not so many", Edge.INDEX, w -> w.team(-1, 4));
        SIX.refused("34: no such course ahead of six", Edge.INDEX, w -> w.team(2, 1));
        SIX.refused("34: not so many ahead of six", Edge.ARGUMENT, w -> w.team(0, 0));
        SIX.refused("34: not so many ahead of six", Edge.ARGUMENT, w -> w.team(0, 4));
        SIX.refused("34: no such course ahead of both", Edge.INDEX, w -> w.team(-1, 0));
        new Edge(CHECK, ControlWood::new).refused("34: no course yet", Edge.INDEX, w -> w.team(0, 1));
    }

    private static void promise35() {
        SIX.due("35: the first run of the first team", 0, w -> w.runs(0, 0, 0));
        SIX.due("35: the last run of the last team", 0, w -> w.runs(5, 2, 3));
        SIX.with(w -> w.runs(5, 2, 3)).due("35: those before", 3, w -> w.runs(5, 2, 0));
        SIX.with(w -> w.runs(5, 2, 3)).due("35: of another run", 0, w -> w.runs(5, 1, 0));
        SIX.with(w -> w.runs(5, 2, 3)).due("35: of another team", 0, w -> w.runs(4, 2, 0));
        SIX.refusedOutside("35: team", Edge.INDEX, 0, 5, (w, team) -> w.runs(team, 0, 0));
        SIX.refusedOutside("35: run", Edge.INDEX, 0, 2, (w, run) -> w.runs(5, run, 0));
        SIX.refusedOutside("35: branches", Edge.ARGUMENT, 0, 3, (w, bits) -> w.runs(5, 2, bits));
        TWO.refused("35: no team yet", Edge.INDEX, w -> w.runs(0, 0, 0));
        Edge uneven = TWO.with(w -> teams(w, 0, 1, 3));
        uneven.refused("35: a run that another team has", Edge.INDEX, w -> w.runs(0, 1, 0));
        uneven.due("35: a run that another team has not", 0, w -> w.runs(1, 2, 0));
    }

    private static void promise35Forks() {
        Edge none = TWO.with(w -> w.team(1, 1));
        none.due("35: no branches without forks", 0, w -> w.runs(0, 0, 0));
        none.refusedOutside("35: branches without forks", Edge.ARGUMENT, 0, 0, (w, bits) -> w.runs(0, 0, bits));
        Edge nine = NINE.with(w -> w.team(2, 3));
        nine.due("35: all of nine forks", 0, w -> w.runs(0, 2, 511));
        nine.with(w -> w.runs(0, 2, 511)).due("35: those before", 511, w -> w.runs(0, 2, 0));
        nine.refusedOutside("35: branches of nine forks", Edge.ARGUMENT, 0, 511, (w, bits) -> w.runs(0, 0, bits));
        Edge grown = TWO.with(w -> w.team(0, 1)).with(w -> w.fork(0, 0, 3));
        grown.due("35: a third fork that was told since", 0, w -> w.runs(0, 0, 7));
        grown.refused("35: and no fourth", Edge.ARGUMENT, w -> w.runs(0, 0, 8));
    }

    private static void promise35Order() {
        SIX.refused("35: no such team ahead of no such fork", Edge.INDEX, w -> w.runs(6, 0, 4));
        SIX.refused("35: no such team ahead of no such fork", Edge.INDEX, w -> w.runs(-1, 0, -1));
        SIX.refused("35: no such run ahead of no such fork", Edge.INDEX, w -> w.runs(0, 3, 4));
        SIX.refused("35: no such run ahead of no such fork", Edge.INDEX, w -> w.runs(0, -1, -1));
        SIX.refused("35: neither team nor run", Edge.INDEX, w -> w.runs(6, 3, 4));
    }

    private static void promise36() {
        TWO.due("36: without teams", true, w -> w.isFair());
        TWO.with(w -> w.team(0, 1)).due("36: one team", true, w -> w.isFair());
        TWO.with(w -> w.team(0, 3)).with(w -> w.runs(0, 0, 3)).due("36: one team of three runs", true, w -> w.isFair());
        Edge two = TWO.with(w -> teams(w, 0, 1, 1));
        two.due("36: two teams alike", true, w -> w.isFair());
        two.with(w -> w.runs(1, 0, 1)).due("36: by one fork unlike", false, w -> w.isFair());
        two.with(w -> w.runs(1, 0, 2)).due("36: by the other fork unlike", false, w -> w.isFair());
        Edge again = two.with(w -> w.runs(0, 0, 2)).with(w -> w.runs(1, 0, 2));
        again.due("36: alike again", true, w -> w.isFair());
        TWO.with(w -> teams(w, 1, 1, 2)).due("36: not as many runs", false, w -> w.isFair());
        TWO.with(w -> teams(w, 1, 2, 1)).due("36: not as many runs", false, w -> w.isFair());
        TWO.with(w -> teams(w, 1, 3, 3, 3, 3, 3, 2)).due("36: the sixth not as many", false, w -> w.isFair());
        TWO.with(w -> teams(w, 1, 3, 3, 3, 3, 3, 3)).due("36: six without forks", true, w -> w.isFair());
        Edge gone = two.with(w -> w.runs(1, 0, 1)).with(w -> w.land(5, 5));
        gone.due("36: without teams anew", true, w -> w.isFair());
    }

    /** Six teams of three runs with nine forks, 30 legs each. */
    private static void promise36Most() {
        Edge most = NINE.with(w -> {
            teams(w, 2, 3, 3, 3, 3, 3, 3);
            for (int team = 0; team < 6; team++) {
                w.runs(team, team % 3, 511);
                w.runs(team, (team + 1) % 3, 73);
                w.runs(team, (team + 2) % 3, 256);
            }
        });
        most.due("36: all teams run each leg as often", true, w -> w.isFair());
        for (int place = 0; place < 9; place++) {
            int bit = 1 << place;
            Edge last = most.with(w -> w.runs(5, 2, 511 ^ bit));
            last.due("36: the last run of the last team by place " + place, false, w -> w.isFair());
            Edge first = most.with(w -> w.runs(0, 0, 511 ^ bit));
            first.due("36: the first run of the first team by place " + place, false, w -> w.isFair());
        }
        // Each leg once by each team, but from a cell to a cell: there is not back.
        Edge turned = TWO.with(w -> {
            w.course(0);
            w.add(2, 0);
            w.add(2, 1);
            w.fork(2, 0, 1);
            w.fork(2, 1, 0);
            teams(w, 2, 1, 1);
            w.runs(1, 0, 3);
        });
        turned.due("36: the other way round", false, w -> w.isFair());
        Edge oftener = TWO.with(w -> {
            w.course(0);
            w.add(2, 0);
            w.fork(2, 0, 3);
            teams(w, 2, 3, 3);
            w.runs(0, 0, 1);
            w.runs(1, 0, 1);
        });
        oftener.due("36: each as often", true, w -> w.isFair());
        oftener.with(w -> w.runs(1, 1, 1)).due("36: the same legs, but not as often", false, w -> w.isFair());
    }

    private static void promise36ByTheCourseNow() {
        Edge bare = TWO.with(w -> teams(w, 1, 1, 1));
        Edge forked = bare.with(w -> w.add(1, 0)).with(w -> w.fork(1, 0, 3)).with(w -> w.runs(0, 0, 1));
        forked.due("36: a fork told since", false, w -> w.isFair());
        forked.with(w -> w.runs(1, 0, 1)).due("36: alike with it", true, w -> w.isFair());
        Edge lower = TWO.with(w -> {
            teams(w, 0, 1, 1);
            w.runs(0, 0, 1);
            w.runs(1, 0, 2);
            w.fork(0, 0, 3);
        });
        // The lowest bit is now that of place 0, and no bit is left for place 3.
        lower.due("36: the bits count anew", false, w -> w.isFair());
        lower.with(w -> w.runs(1, 0, 1)).due("36: alike", true, w -> w.isFair());
    }

    private static void promise37() {
        TWO.due("37: 1 without teams", 1, w -> w.fairWays());
        NINE.with(w -> w.runner(0, 2)).due("37: 1 without teams, with forks", 1, w -> w.fairWays());
        TWO.with(w -> w.team(1, 1)).due("37: 1 without forks", 1, w -> w.fairWays());
        TWO.with(w -> teams(w, 1, 3, 3, 3, 3, 3, 3)).due("37: 1 without forks, the most runs", 1, w -> w.fairWays());
        TWO.with(w -> w.team(0, 1)).due("37: two forks", 4, w -> w.fairWays());
        NINE.with(w -> w.team(2, 1)).due("37: nine forks", 512, w -> w.fairWays());
        TWO.with(w -> forks(w, 4)).with(w -> w.team(2, 3)).due("37: 4096 of one team", 4096, w -> w.fairWays());
        TWO.with(w -> forks(w, 6)).with(w -> w.team(2, 2)).due("37: 4096 of one team", 4096, w -> w.fairWays());
        Edge twelve = TWO.with(w -> forks(w, 1)).with(w -> teams(w, 2, 2, 2, 2, 2, 2, 2));
        twelve.due("37: 4096, six teams of two runs", 1 + 64 + 1, w -> w.fairWays());
        Edge four = TWO.with(w -> forks(w, 1)).with(w -> teams(w, 2, 3, 3, 3, 3));
        four.due("37: 4096, four teams of three runs", 1 + 81 + 81 + 1, w -> w.fairWays());
        Edge two = TWO.with(w -> teams(w, 0, 3, 3));
        two.due("37: 4096, two teams of three runs, forks apart", 400, w -> w.fairWays());
        Edge six = TWO.with(w -> teams(w, 0, 1, 1, 1, 1, 1, 1));
        six.due("37: 4096, six teams of one run", 4, w -> w.fairWays());
        Edge alike = TWO.with(w -> w.control(4, 1, 0)).with(w -> {
            w.course(0);
            w.add(2, 0);
            w.fork(2, 0, 4);
            teams(w, 2, 1, 1);
        });
        alike.due("37: both branches in one cell, all ways", 4, w -> w.fairWays());
        Edge told = two.with(w -> w.runs(0, 2, 3)).with(w -> w.fairWays());
        told.due("37: the branches stay", 3, w -> w.runs(0, 2, 3));
        told.due("37: so it is as it was", false, w -> w.isFair());
        Edge unlike = TWO.with(w -> {
            w.course(0);
            for (int place = 0; place < 6; place++) {
                w.add(2, place % 3);
                w.fork(2, place, 3);
            }
            teams(w, 2, 1, 1);
        });
        unlike.due("37: 4096, two teams of one run", fairPairs(), w -> w.fairWays());
    }

    /** The pairs of ways over places 0, 1, 2, 0, 1, 2 or the fork 3 that have the same legs. */
    private static int fairPairs() {
        int fair = 0;
        for (int way = 0; way < 64; way++) {
            for (int other = 0; other < 64; other++) {
                fair += java.util.Arrays.equals(legs(way), legs(other)) ? 1 : 0;
            }
        }
        return fair;
    }

    private static int[] legs(int way) {
        int[] legs = new int[7];
        int at = 9;
        for (int place = 0; place < 6; place++) {
            int next = (way >> place & 1) == 1 ? 3 : place % 3;
            legs[place] = at * 10 + next;
            at = next;
        }
        legs[6] = at * 10 + 9;
        java.util.Arrays.sort(legs);
        return legs;
    }

    private static void promise37TooMany() {
        Edge thirteen = TWO.with(w -> forks(w, 1)).with(w -> teams(w, 2, 2, 2, 2, 2, 2, 3));
        thirteen.refused("37: 8192", Edge.UNSUPPORTED, w -> w.fairWays());
        Edge fourteen = TWO.with(w -> forks(w, 7)).with(w -> w.team(2, 2));
        fourteen.refused("37: 16384 of one team", Edge.UNSUPPORTED, w -> w.fairWays());
        Edge ints = TWO.with(w -> forks(w, 4)).with(w -> teams(w, 2, 3, 3, 2));
        ints.refused("37: 2 to the power of 32, above the ints", Edge.UNSUPPORTED, w -> w.fairWays());
        Edge highest = TWO.with(w -> forks(w, 4)).with(w -> teams(w, 2, 3, 3, 1));
        highest.refused("37: 2 to the power of 28", Edge.UNSUPPORTED, w -> w.fairWays());
        Edge sign = TWO.with(w -> forks(w, 1)).with(w -> teams(w, 2, 3, 3, 3, 3, 3, 3));
        sign.refused("37: 2 to the power of 18", Edge.UNSUPPORTED, w -> w.fairWays());
        Edge longs = TWO.with(w -> forks(w, 8)).with(w -> teams(w, 2, 3, 3, 2));
        longs.refused("37: 2 to the power of 64, above the longs", Edge.UNSUPPORTED, w -> w.fairWays());
        Edge negative = TWO.with(w -> forks(w, 9)).with(w -> teams(w, 2, 3, 3, 1));
        negative.refused("37: 2 to the power of 63, above the longs", Edge.UNSUPPORTED, w -> w.fairWays());
        Edge most = NINE.with(w -> teams(w, 2, 3, 3, 3, 3, 3, 3));
        most.refused("37: 2 to the power of 162", Edge.UNSUPPORTED, w -> w.fairWays());
        Edge fewer = most.with(w -> w.team(1, 1));
        fewer.due("37: the relay with too many is gone", 1, w -> w.fairWays());
    }

    private static void promise37Uneven() {
        TWO.with(w -> teams(w, 1, 1, 2)).due("37: not as many runs, without forks", 0, w -> w.fairWays());
        TWO.with(w -> teams(w, 0, 1, 2)).due("37: not as many runs", 0, w -> w.fairWays());
        TWO.with(w -> teams(w, 0, 3, 2, 1)).due("37: not as many runs, 4096", 0, w -> w.fairWays());
        TWO.with(w -> teams(w, 0, 3, 3, 1)).refused("37: not as many runs, 16384", Edge.UNSUPPORTED, w -> w.fairWays());
    }

    private static void promise38() {
        TWO.due("38: the least numbers", 0, w -> w.changeover(0, 0, 0, -1));
        TWO.due("38: the first run, the last start", 99999, w -> w.changeover(0, 99999, 99999, -1));
        TWO.due("38: the second run", 99999 * 2, w -> w.changeover(1, 99999, 99999, -1));
        TWO.due("38: the third run, whatever comes above 99999", 99999 * 3, w -> w.changeover(2, 99999, 99999, -1));
        TWO.due("38: by no seconds", 7, w -> w.changeover(2, 7, 0, -1));
        TWO.due("38: at 0", 0, w -> w.changeover(2, 0, 0, 0));
        new Edge(CHECK, ControlWood::new).due("38: without a team", 30, w -> w.changeover(2, 10, 10, -1));
    }

    private static void promise38Restart() {
        TWO.due("38: a restart in the first run is none", 50, w -> w.changeover(0, 50, 10, 0));
        TWO.due("38: a second earlier", 59, w -> w.changeover(1, 50, 10, 59));
        TWO.due("38: at once with the finish", 60, w -> w.changeover(1, 50, 10, 60));
        TWO.due("38: a second later", 60, w -> w.changeover(1, 50, 10, 61));
        TWO.due("38: 0 is told", 0, w -> w.changeover(1, 50, 10, 0));
        TWO.due("38: -1 is not", 60, w -> w.changeover(1, 50, 10, -1));
        TWO.due("38: the last restart", 99999, w -> w.changeover(1, 99999, 1, 99999));
        TWO.due("38: the last restart for the third", 99999, w -> w.changeover(2, 99999, 99999, 99999));
        TWO.due("38: the last restart, too late", 99998, w -> w.changeover(2, 0, 49999, 99999));
        TWO.due("38: for the third alone", 69, w -> w.changeover(2, 50, 10, 69));
        TWO.due("38: at once with the second's finish", 70, w -> w.changeover(2, 50, 10, 70));
        TWO.due("38: for the second and the third", 55, w -> w.changeover(2, 50, 10, 55));
        TWO.due("38: the third as the second finishes", 60, w -> w.changeover(2, 50, 10, 60));
        TWO.due("38: ahead of the first start", 5, w -> w.changeover(2, 50, 10, 5));
    }

    private static void promise38Refused() {
        TWO.refusedOutside("38: run", Edge.ARGUMENT, 0, 2, (w, run) -> w.changeover(run, 0, 0, 0));
        TWO.refusedOutside("38: start", Edge.ARGUMENT, 0, 99999, (w, start) -> w.changeover(0, start, 0, 0));
        TWO.refusedOutside("38: seconds", Edge.ARGUMENT, 0, 99999, (w, seconds) -> w.changeover(0, 0, seconds, 0));
        TWO.refusedOutside("38: restart", Edge.ARGUMENT, -1, 99999, (w, restart) -> w.changeover(0, 0, 0, restart));
        TWO.refused("38: all", Edge.ARGUMENT, w -> w.changeover(3, -1, -1, -2));
    }
}
