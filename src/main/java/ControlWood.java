import java.util.Arrays;
import java.util.NoSuchElementException;

/** Orienteering whole: land and map, controls, courses, forks, runners, results, relays, chases, scores, tracks. */
public final class ControlWood {
    private static final int LEAST_SIDE = 3;
    private static final int MOST_SIDE = 12;
    private static final int MOST_CELLS = MOST_SIDE * MOST_SIDE;
    private static final int SIDES = 4;
    private static final int MOST_GROWTH = 9;
    private static final int MOST_HEIGHT = 9;
    private static final int STEP_COST = 10;
    private static final int GROWTH_COST = 5;
    private static final int CLIMB_COST = 6;
    private static final char OPEN = '.';
    private static final char WATER = 'w';
    private static final char OUT_OF_BOUNDS = 'x';
    /** Far above what any way can cost, and small enough to add to. */
    private static final int NO_WAY = 1000000;

    private static final int MOST_CONTROLS = 12;
    private static final int MOST_SITE = 3;
    private static final int MOST_POINTS = 99;
    private static final int NEAR = 3;
    private static final int NEAR_OF_A_SITE = 6;
    private static final int MOST_COURSES = 6;
    private static final int MOST_PLACES = 9;
    private static final int MOST_LEGS = MOST_PLACES + 1;

    private static final int MOST_RUNNERS = 12;
    private static final int MOST_CLUB = 9;
    private static final int MOST_PUNCHES = 20;
    private static final int MOST_FIXES = 12;
    private static final int MOST_SECONDS = 99999;
    private static final int MOST_FIRST = 9999;
    private static final int MOST_INTERVAL = 999;
    private static final int BEST_TIMES = 3;
    private static final int NONE = -1;

    private static final int MOST_TEAMS = 6;
    private static final int MOST_RUNS = 3;
    private static final int MOST_TEAM_LEGS = MOST_RUNS * MOST_LEGS;
    /** At most 4096 ways are 12 bits, of which each of two teams has 6 at most. */
    private static final int MOST_BITS = 12;
    private static final int MOST_TEAM_WAYS = 64;

    private static final int MOST_LIMIT = 9999;
    private static final int MOST_PACE = 9999;
    private static final int MOST_SCORE = 9999;
    private static final int MOST_LATE = 9999;
    private static final int MOST_EACH = 99;

    private final Terrain ground = new Terrain();
    private final Post[] controls = new Post[MOST_CONTROLS];
    private int controlCount;
    private final Route[] courses = new Route[MOST_COURSES];
    private int courseCount;
    private final Entrant[] runners = new Entrant[MOST_RUNNERS];
    private int runnerCount;
    private final Relay relay = new Relay();
    private final Tour tour = new Tour();
    private final int[] line = new int[MOST_RUNNERS];
    private final int[] lots = new int[MOST_RUNNERS];
    private final int[] sorted = new int[MOST_RUNNERS];
    private final int[] rates = new int[MOST_LEGS];
    private final int[] costsTo = new int[MOST_FIXES];

    public ControlWood() {
        for (int i = 0; i < MOST_CONTROLS; i++) {
            controls[i] = new Post();
        }
        for (int i = 0; i < MOST_COURSES; i++) {
            courses[i] = new Route();
        }
        for (int i = 0; i < MOST_RUNNERS; i++) {
            runners[i] = new Entrant();
        }
        ground.begin(5, 5);
    }

    // ---- land and map

    public int land(int columns, int rows) throws IllegalArgumentException {
        needRange(columns, LEAST_SIDE, MOST_SIDE);
        needRange(rows, LEAST_SIDE, MOST_SIDE);
        ground.begin(columns, rows);
        controlCount = 0;
        courseCount = 0;
        runnerCount = 0;
        relay.teams = 0;
        return ground.cells;
    }

    public int cell(int cell, int growth, int height, char kind)
            throws IndexOutOfBoundsException, IllegalArgumentException {
        needCell(cell);
        needRange(growth, 0, MOST_GROWTH);
        needRange(height, 0, MOST_HEIGHT);
        needKind(kind);
        int before = ground.growths[cell];
        ground.growths[cell] = growth;
        ground.heights[cell] = height;
        ground.kinds[cell] = kind;
        return before;
    }

    public int print() {
        return ground.printMap();
    }

    public int show(int cell, int growth, char kind) throws IndexOutOfBoundsException, IllegalArgumentException {
        needCell(cell);
        needRange(growth, 0, MOST_GROWTH);
        needKind(kind);
        int before = ground.shownGrowths[cell];
        ground.shownGrowths[cell] = growth;
        ground.shownKinds[cell] = kind;
        return before;
    }

    public int cost(int from, int to, boolean isMap) throws IndexOutOfBoundsException, NoSuchElementException {
        needCell(from);
        needCell(to);
        return needWay(ground.bestCost(from, to, isMap));
    }

    public int misled(int from, int to) throws IndexOutOfBoundsException, NoSuchElementException {
        needCell(from);
        needCell(to);
        return needWay(ground.costOfMapWay(from, to));
    }

    // ---- controls, courses, forks

    public int control(int cell, int site, int points) throws IndexOutOfBoundsException, IllegalArgumentException,
            UnsupportedOperationException, IllegalStateException {
        needCell(cell);
        needRange(site, 0, MOST_SITE);
        needRange(points, 0, MOST_POINTS);
        if (ground.kinds[cell] == WATER) {
            throw new UnsupportedOperationException("the cell is water");
        }
        if (controlCount >= MOST_CONTROLS) {
            throw new IllegalStateException("there are 12 controls");
        }
        controls[controlCount].begin(cell, site, points);
        controlCount++;
        return controlCount - 1;
    }

    public boolean areNear(int control, int other) throws IndexOutOfBoundsException {
        Post one = needControl(control);
        return areTooNear(one, needControl(other));
    }

    public int course(int start) throws IndexOutOfBoundsException, IllegalStateException {
        needCell(start);
        if (courseCount >= MOST_COURSES) {
            throw new IllegalStateException("there are 6 courses");
        }
        courses[courseCount].begin(start);
        courseCount++;
        return courseCount - 1;
    }

    public int add(int course, int control)
            throws IndexOutOfBoundsException, UnsupportedOperationException, IllegalStateException {
        Route route = needCourse(course);
        needControl(control);
        needNobody(course);
        if (route.places >= MOST_PLACES) {
            throw new IllegalStateException("the course has 9 controls");
        }
        route.controls[route.places] = control;
        route.others[route.places] = NONE;
        route.places++;
        return route.places;
    }

    public int fork(int course, int place, int control)
            throws IndexOutOfBoundsException, UnsupportedOperationException, IllegalArgumentException {
        Route route = needCourse(course);
        needIndex(place, route.places);
        needControl(control);
        needNobody(course);
        if (route.controls[place] == control) {
            throw new IllegalArgumentException("it is the control of the place");
        }
        route.others[place] = control;
        return route.forks();
    }

    public boolean isLawful(int course) throws IndexOutOfBoundsException {
        Route route = needCourse(course);
        return route.places > 0 && hasLawfulControls(route) && lengthOnMap(route) < NO_WAY;
    }

    public int lengthOf(int course) throws IndexOutOfBoundsException, NoSuchElementException {
        return needWay(lengthOnMap(needCourse(course)));
    }

    // ---- runners and starts

    public int runner(int club, int course)
            throws IllegalArgumentException, IndexOutOfBoundsException, IllegalStateException {
        needRange(club, 0, MOST_CLUB);
        needCourse(course);
        if (runnerCount >= MOST_RUNNERS) {
            throw new IllegalStateException("there are 12 runners");
        }
        return enter(club, course, NONE);
    }

    public int branches(int runner, int branches)
            throws IndexOutOfBoundsException, IllegalArgumentException, UnsupportedOperationException {
        Entrant one = needRunner(runner);
        needForks(courses[one.course], branches);
        needUntouched(one);
        int before = one.branches;
        one.branches = branches;
        return before;
    }

    public int start(int runner, int seconds)
            throws IndexOutOfBoundsException, IllegalArgumentException, UnsupportedOperationException {
        Entrant one = needRunner(runner);
        needRange(seconds, 0, MOST_SECONDS);
        needUntouched(one);
        int before = one.start;
        one.start = seconds;
        return before;
    }

    public int draw(int course, int seed, int first, int interval)
            throws IndexOutOfBoundsException, IllegalArgumentException, UnsupportedOperationException {
        needCourse(course);
        needRange(seed, 0, MOST_SECONDS);
        needRange(first, 0, MOST_FIRST);
        needRange(interval, 0, MOST_INTERVAL);
        if (isSomebodyOut(course)) {
            throw new UnsupportedOperationException("somebody has a punch without a finish");
        }
        int count = lineUp(course);
        drawLots(count, seed);
        startByLots(count, first, interval);
        return count;
    }

    public int startOf(int runner) throws IndexOutOfBoundsException, NoSuchElementException {
        Entrant one = needRunner(runner);
        if (one.start == NONE) {
            throw new NoSuchElementException("there is no start");
        }
        return one.start;
    }

    // ---- punches and rulings

    public int punch(int runner, int control, int seconds) throws IndexOutOfBoundsException,
            UnsupportedOperationException, IllegalArgumentException, IllegalStateException {
        Entrant one = needRunner(runner);
        Post post = needControl(control);
        needOnTheWay(one);
        needRange(seconds, one.lastSeconds(), MOST_SECONDS);
        if (one.punches >= MOST_PUNCHES) {
            throw new IllegalStateException("20 punches are kept");
        }
        if (!post.isDeadAt(seconds)) {
            one.keep(control, seconds);
        }
        return one.punches;
    }

    public int finish(int runner, int seconds)
            throws IndexOutOfBoundsException, UnsupportedOperationException, IllegalArgumentException {
        Entrant one = needRunner(runner);
        needOnTheWay(one);
        needRange(seconds, one.lastSeconds(), MOST_SECONDS);
        one.finish = seconds;
        return seconds - one.start;
    }

    public int dead(int control, int from, int to) throws IndexOutOfBoundsException, IllegalArgumentException {
        Post post = needControl(control);
        if (from < 0 || to < from) {
            throw new IllegalArgumentException("a number is below 0, or the last one is less");
        }
        post.deadFrom = from;
        post.deadTo = to;
        return keptWhenDead(control, post);
    }

    public int stolen(int control, int from) throws IndexOutOfBoundsException, IllegalArgumentException {
        Post post = needControl(control);
        if (from < NONE) {
            throw new IllegalArgumentException("the seconds are below -1");
        }
        int before = post.stolenFrom;
        post.stolenFrom = from;
        return before;
    }

    public boolean voided(int course, int leg, boolean is) throws IndexOutOfBoundsException {
        Route route = needCourse(course);
        needLeg(route, leg);
        boolean before = route.voids[leg];
        route.voids[leg] = is;
        return before;
    }

    public int rule(int runner, int seconds)
            throws IndexOutOfBoundsException, UnsupportedOperationException, IllegalArgumentException {
        Entrant one = needRunner(runner);
        if (one.start == NONE) {
            throw new UnsupportedOperationException("there is no start");
        }
        needRange(seconds, NONE, MOST_SECONDS);
        int before = one.countedStart();
        one.ruledStart = seconds;
        return before;
    }

    // ---- results

    public char state(int runner) throws IndexOutOfBoundsException {
        Entrant one = needRunner(runner);
        settle(one);
        return one.state;
    }

    public int time(int runner) throws IndexOutOfBoundsException, NoSuchElementException {
        return needOk(needRunner(runner)).countedTime();
    }

    public int split(int runner, int leg) throws IndexOutOfBoundsException, NoSuchElementException {
        Entrant one = needRunner(runner);
        needLeg(courses[one.course], leg);
        needOk(one);
        return needSome(one.splits[leg]);
    }

    public int place(int runner) throws IndexOutOfBoundsException, NoSuchElementException {
        Entrant one = needOk(needRunner(runner));
        settleAll();
        int place = 1;
        for (int i = 0; i < runnerCount; i++) {
            if (isOkOn(runners[i], one.course) && runners[i].countedTime() < one.countedTime()) {
                place++;
            }
        }
        return place;
    }

    public int reference(int runner, int leg) throws IndexOutOfBoundsException, NoSuchElementException {
        Entrant one = needRunner(runner);
        needLeg(courses[one.course], leg);
        needOk(one);
        settleAll();
        return needSome(referenceOf(one, leg));
    }

    public int pace(int runner) throws IndexOutOfBoundsException, NoSuchElementException {
        Entrant one = needOk(needRunner(runner));
        settleAll();
        return needSome(paceOf(one));
    }

    public int loss(int runner, int leg) throws IndexOutOfBoundsException, NoSuchElementException {
        Entrant one = needRunner(runner);
        needLeg(courses[one.course], leg);
        needOk(one);
        needSome(one.splits[leg]);
        settleAll();
        long pace = needSome(paceOf(one));
        long loss = one.splits[leg] - pace * referenceOf(one, leg) / 1000L;
        return (int) Math.max(0L, loss);
    }

    public int points(int runner) throws IndexOutOfBoundsException, NoSuchElementException {
        Entrant one = needOk(needRunner(runner));
        settleAll();
        int own = one.countedTime();
        if (own == 0) {
            throw new NoSuchElementException("the time is 0");
        }
        return 1000 * meanOfBest(one.course) / own;
    }

    // ---- relays, chases, scores, tracks

    public int team(int course, int runs)
            throws IndexOutOfBoundsException, IllegalArgumentException, IllegalStateException {
        needCourse(course);
        needRange(runs, 1, MOST_RUNS);
        int others = relay.course == course ? relay.teams : 0;
        if (others >= MOST_TEAMS) {
            throw new IllegalStateException("there are 6 teams");
        }
        relay.course = course;
        relay.teams = others + 1;
        relay.begin(others, runs);
        return others;
    }

    public int runs(int team, int run, int branches) throws IndexOutOfBoundsException, IllegalArgumentException {
        needIndex(team, relay.teams);
        needIndex(run, relay.runs[team]);
        needForks(courses[relay.course], branches);
        int before = relay.branches[team * MOST_RUNS + run];
        relay.branches[team * MOST_RUNS + run] = branches;
        return before;
    }

    public boolean isFair() {
        if (relay.teams == 0) {
            return true;
        }
        Route route = courses[relay.course];
        for (int team = 0; team < relay.teams; team++) {
            listLegs(team, relay.runs[team], relay.bitsOf(team, route.forks()));
        }
        for (int team = 1; team < relay.teams; team++) {
            if (!relay.haveSameLegs(0, team)) {
                return false;
            }
        }
        return relay.hasEvenRuns();
    }

    public int fairWays() throws UnsupportedOperationException {
        if (relay.teams == 0) {
            return 1;
        }
        int forks = courses[relay.course].forks();
        if (relay.allRuns() * forks > MOST_BITS) {
            throw new UnsupportedOperationException("there are more than 4096 ways");
        }
        if (!relay.hasEvenRuns()) {
            return 0;
        }
        int ways = 1 << relay.runs[0] * forks;
        return relay.teams == 1 ? ways : countFairWays(ways);
    }

    public int changeover(int run, int start, int seconds, int restart) throws IllegalArgumentException {
        needRange(run, 0, MOST_RUNS - 1);
        needRange(start, 0, MOST_SECONDS);
        needRange(seconds, 0, MOST_SECONDS);
        needRange(restart, NONE, MOST_SECONDS);
        int at = start;
        for (int i = 0; i < run; i++) {
            at += seconds;
            if (restart != NONE && restart < at) {
                at = restart;
            }
        }
        return at;
    }

    public int chase(int course, int other, int first)
            throws IndexOutOfBoundsException, IllegalArgumentException, IllegalStateException {
        needCourse(course);
        needCourse(other);
        needRange(first, 0, MOST_FIRST);
        settleAll();
        int count = lineUpByTimes(course);
        if (runnerCount + count > MOST_RUNNERS) {
            throw new IllegalStateException("there would be more than 12 runners");
        }
        for (int i = 0; i < count; i++) {
            Entrant one = runners[line[i]];
            enter(one.club, other, first + one.countedTime() - runners[line[0]].countedTime());
        }
        return count;
    }

    public int score(int start, int limit, int pace) throws IndexOutOfBoundsException, IllegalArgumentException {
        needCell(start);
        needRange(limit, 0, MOST_LIMIT);
        needRange(pace, 1, MOST_PACE);
        for (int i = 0; i < controlCount; i++) {
            tour.points[i] = controls[i].points;
            listWays(i, controls[i].cell, start, pace);
        }
        listWays(Tour.START, start, start, pace);
        return tour.mostPoints(controlCount, limit);
    }

    public int late(int points, int late, int each) throws IllegalArgumentException {
        needRange(points, 0, MOST_SCORE);
        needRange(late, 0, MOST_LATE);
        needRange(each, 0, MOST_EACH);
        int begun = (late + 59) / 60;
        return Math.max(0, points - begun * each);
    }

    public int fix(int runner, int cell, int seconds)
            throws IndexOutOfBoundsException, IllegalArgumentException, IllegalStateException {
        Entrant one = needRunner(runner);
        needCell(cell);
        if (seconds < 0 || one.fixes > 0 && seconds <= one.fixSeconds[one.fixes - 1]) {
            throw new IllegalArgumentException("the seconds are below 0, or not above those of the last fix");
        }
        if (one.fixes >= MOST_FIXES) {
            throw new IllegalStateException("there are 12 fixes");
        }
        one.fixCells[one.fixes] = cell;
        one.fixSeconds[one.fixes] = seconds;
        one.fixes++;
        return one.fixes;
    }

    public boolean mayHave(int runner, int control) throws IndexOutOfBoundsException {
        Entrant one = needRunner(runner);
        Post post = needControl(control);
        for (int i = 0; i < one.fixes; i++) {
            if (one.fixCells[i] == post.cell) {
                return true;
            }
        }
        return hasTimeFor(one, post.cell);
    }

    // ---- figures

    public float okShare(int course) throws IndexOutOfBoundsException, ArithmeticException {
        needCourse(course);
        int all = countEntered(course);
        if (all == 0) {
            throw new ArithmeticException("nobody is entered");
        }
        settleAll();
        return (float) countOk(course) / (float) all;
    }

    public double meanTime(int course) throws IndexOutOfBoundsException, ArithmeticException {
        needCourse(course);
        settleAll();
        int count = countOk(course);
        if (count == 0) {
            throw new ArithmeticException("nobody has a time");
        }
        int sum = 0;
        for (int i = 0; i < runnerCount; i++) {
            if (isOkOn(runners[i], course)) {
                sum += runners[i].countedTime();
            }
        }
        return (double) sum / (double) count;
    }

    public long checksum() {
        long sum = 7L;
        for (int i = 0; i < runnerCount; i++) {
            Entrant one = runners[i];
            for (int k = 0; k < one.punches; k++) {
                sum = 31L * sum + one.punchControls[k];
                sum = 31L * sum + one.punchSeconds[k];
            }
        }
        return sum;
    }

    public boolean isSound() {
        for (int i = 0; i < runnerCount; i++) {
            settle(runners[i]);
            if (runners[i].state == 'o' && !runners[i].addsUp(courses[runners[i].course])) {
                return false;
            }
        }
        return ground.hasNoDearWay();
    }

    // ---- what a call asks for

    private static void needRange(int number, int least, int most) {
        if (number < least || number > most) {
            throw new IllegalArgumentException("a number is out of range");
        }
    }

    private static void needIndex(int index, int count) {
        if (index < 0 || index >= count) {
            throw new IndexOutOfBoundsException("there is no such number");
        }
    }

    private static void needKind(char kind) {
        if (kind != OPEN && kind != WATER && kind != OUT_OF_BOUNDS) {
            throw new IllegalArgumentException("there is no such kind");
        }
    }

    private static int needWay(int cost) {
        if (cost >= NO_WAY) {
            throw new NoSuchElementException("there is no way");
        }
        return cost;
    }

    private static int needSome(int number) {
        if (number == NONE) {
            throw new NoSuchElementException("there is none");
        }
        return number;
    }

    private static void needLeg(Route route, int leg) {
        needIndex(leg, route.places + 1);
    }

    private static void needForks(Route route, int branches) {
        if (branches < 0 || branches >= 1 << route.forks()) {
            throw new IllegalArgumentException("the course has no such fork");
        }
    }

    private static void needUntouched(Entrant one) {
        if (one.punches > 0 || one.finish != NONE) {
            throw new UnsupportedOperationException("the runner has a punch, or a finish");
        }
    }

    private static void needOnTheWay(Entrant one) {
        if (one.start == NONE || one.finish != NONE) {
            throw new UnsupportedOperationException("the runner has no start, or has finished");
        }
    }

    private void needCell(int cell) {
        needIndex(cell, ground.cells);
    }

    private Post needControl(int control) {
        needIndex(control, controlCount);
        return controls[control];
    }

    private Route needCourse(int course) {
        needIndex(course, courseCount);
        return courses[course];
    }

    private Entrant needRunner(int runner) {
        needIndex(runner, runnerCount);
        return runners[runner];
    }

    private void needNobody(int course) {
        if (countEntered(course) > 0) {
            throw new UnsupportedOperationException("somebody is entered");
        }
    }

    private Entrant needOk(Entrant one) {
        settle(one);
        if (one.state != 'o') {
            throw new NoSuchElementException("the runner is not 'o'");
        }
        return one;
    }

    // ---- controls and courses

    private boolean areTooNear(Post one, Post other) {
        int apart = ground.apart(one.cell, other.cell);
        return apart < NEAR || apart < NEAR_OF_A_SITE && one.site == other.site;
    }

    private boolean hasLawfulControls(Route route) {
        for (int i = 0; i < route.places; i++) {
            Post one = controls[route.controls[i]];
            if (one.cell == route.start) {
                return false;
            }
            for (int k = 0; k < i; k++) {
                if (areTooNear(one, controls[route.controls[k]])) {
                    return false;
                }
            }
        }
        return true;
    }

    private int lengthOnMap(Route route) {
        int sum = 0;
        for (int leg = 0; leg <= route.places; leg++) {
            int cost = ground.bestCost(cellOf(route, leg, 0), cellOf(route, leg + 1, 0), true);
            if (cost >= NO_WAY) {
                return NO_WAY;
            }
            sum += cost;
        }
        return sum;
    }

    /** The cell at the beginning of a leg by its number; behind the last leg that of the finish. */
    private int cellOf(Route route, int leg, int branches) {
        if (leg <= 0 || leg > route.places) {
            return route.start;
        }
        return controls[route.controlAt(leg - 1, branches)].cell;
    }

    // ---- runners and starts

    private int enter(int club, int course, int start) {
        if (runnerCount >= MOST_RUNNERS) {
            return NONE;
        }
        runners[runnerCount].begin(club, course, start);
        runnerCount++;
        return runnerCount - 1;
    }

    private int countEntered(int course) {
        int count = 0;
        for (int i = 0; i < runnerCount; i++) {
            if (runners[i].course == course) {
                count++;
            }
        }
        return count;
    }

    private boolean isSomebodyOut(int course) {
        for (int i = 0; i < runnerCount; i++) {
            Entrant one = runners[i];
            if (one.course == course && one.punches > 0 && one.finish == NONE) {
                return true;
            }
        }
        return false;
    }

    private int lineUp(int course) {
        int count = 0;
        for (int i = 0; i < runnerCount; i++) {
            if (runners[i].course == course && runners[i].finish == NONE) {
                line[count] = i;
                count++;
            }
        }
        return count;
    }

    private void drawLots(int count, int seed) {
        long z = seed;
        for (int left = count; left > 0; left--) {
            z = (z * 1103515245L + 12345L) % 2147483648L;
            int lot = (int) (z / 65536L % left);
            lots[count - left] = line[lot];
            takeOut(line, lot, left);
        }
    }

    private void startByLots(int count, int first, int interval) {
        int clubAhead = NONE;
        for (int done = 0; done < count; done++) {
            int at = firstOfAnotherClub(count - done, clubAhead);
            Entrant one = runners[lots[at]];
            one.start = first + done * interval;
            clubAhead = one.club;
            takeOut(lots, at, count - done);
        }
    }

    private int firstOfAnotherClub(int left, int clubAhead) {
        for (int i = 0; i < left; i++) {
            if (runners[lots[i]].club != clubAhead) {
                return i;
            }
        }
        return 0;
    }

    private static void takeOut(int[] row, int at, int count) {
        for (int i = Math.max(0, at); i + 1 < Math.min(count, row.length); i++) {
            row[i] = row[i + 1];
        }
    }

    /** Those who are 'o', stable by their numbers, so that of several alike the lower one comes first. */
    private int lineUpByTimes(int course) {
        int count = 0;
        for (int i = 0; i < runnerCount; i++) {
            if (isOkOn(runners[i], course)) {
                int at = count;
                while (at > 0 && runners[line[at - 1]].countedTime() > runners[i].countedTime()) {
                    line[at] = line[at - 1];
                    at--;
                }
                line[at] = i;
                count++;
            }
        }
        return count;
    }

    private int keptWhenDead(int control, Post post) {
        int count = 0;
        for (int i = 0; i < runnerCount; i++) {
            Entrant one = runners[i];
            for (int k = 0; k < one.punches; k++) {
                if (one.punchControls[k] == control && post.isDeadAt(one.punchSeconds[k])) {
                    count++;
                }
            }
        }
        return count;
    }

    // ---- results

    private void settleAll() {
        for (int i = 0; i < runnerCount; i++) {
            settle(runners[i]);
        }
    }

    /** Works out how a runner is, anew for each call, since rulings and land may have changed. */
    private void settle(Entrant one) {
        if (one.start == NONE) {
            one.state = 'n';
        } else if (one.finish == NONE) {
            one.state = 'r';
        } else {
            Route route = courses[one.course];
            one.findControls(route);
            one.takeSplits(route);
            if (isOutOfBounds(one)) {
                one.state = 'x';
            } else {
                one.state = isMissing(one, route) ? 'm' : 'o';
            }
        }
    }

    private boolean isOutOfBounds(Entrant one) {
        for (int i = 0; i < one.fixes; i++) {
            if (ground.kinds[one.fixCells[i]] == OUT_OF_BOUNDS) {
                return true;
            }
        }
        return false;
    }

    private boolean isMissing(Entrant one, Route route) {
        int next = one.finish;
        for (int place = route.places - 1; place >= 0; place--) {
            if (one.found[place] != NONE) {
                next = one.found[place];
            } else if (!controls[route.controlAt(place, one.branches)].isStolenBy(next)) {
                return true;
            }
        }
        return false;
    }

    private static boolean isOkOn(Entrant one, int course) {
        return one.course == course && one.state == 'o';
    }

    private int countOk(int course) {
        int count = 0;
        for (int i = 0; i < runnerCount; i++) {
            if (isOkOn(runners[i], course)) {
                count++;
            }
        }
        return count;
    }

    private int referenceOf(Entrant one, int leg) {
        int count = 0;
        for (int i = 0; i < runnerCount; i++) {
            Entrant other = runners[i];
            if (isOkOn(other, one.course) && other.splits[leg] != NONE && haveSameEnds(one, other, leg)) {
                insert(sorted, 0, count, other.splits[leg]);
                count++;
            }
        }
        return count == 0 ? NONE : meanOfSorted((count + 1) / 2);
    }

    private boolean haveSameEnds(Entrant one, Entrant other, int leg) {
        Route route = courses[one.course];
        return cellOf(route, leg, one.branches) == cellOf(route, leg, other.branches)
                && cellOf(route, leg + 1, one.branches) == cellOf(route, leg + 1, other.branches);
    }

    private int paceOf(Entrant one) {
        int count = 0;
        for (int leg = 0; leg <= courses[one.course].places; leg++) {
            if (one.splits[leg] != NONE) {
                int reference = referenceOf(one, leg);
                if (reference > 0) {
                    insert(rates, 0, count, 1000 * one.splits[leg] / reference);
                    count++;
                }
            }
        }
        return count == 0 ? NONE : rates[(count - 1) / 2];
    }

    private int meanOfBest(int course) {
        int count = 0;
        for (int i = 0; i < runnerCount; i++) {
            if (isOkOn(runners[i], course)) {
                insert(sorted, 0, count, runners[i].countedTime());
                count++;
            }
        }
        return meanOfSorted(Math.min(count, BEST_TIMES));
    }

    private int meanOfSorted(int count) {
        int sum = 0;
        for (int i = 0; i < count; i++) {
            sum += sorted[i];
        }
        return count > 0 ? sum / count : 0;
    }

    /** Puts a number into its place in the part of a row that is sorted. */
    private static void insert(int[] row, int from, int count, int number) {
        int at = from + count;
        if (from < 0 || count < 0 || at >= row.length) {
            return;
        }
        while (at > from && row[at - 1] > number) {
            row[at] = row[at - 1];
            at--;
        }
        row[at] = number;
    }

    // ---- relays, scores, tracks

    /** Lists the legs that a team runs by these bits, sorted, so that two lists can be compared. */
    private void listLegs(int list, int runs, int bits) {
        Route route = courses[relay.course];
        int forks = route.forks();
        int count = 0;
        for (int run = 0; run < runs; run++) {
            int branches = bits >> run * forks & (1 << forks) - 1;
            for (int leg = 0; leg <= route.places; leg++) {
                int code = cellOf(route, leg, branches) * MOST_CELLS + cellOf(route, leg + 1, branches);
                insert(relay.legs, list * MOST_TEAM_LEGS, count, code);
                count++;
            }
        }
        relay.legCounts[list] = count;
    }

    /** Each way of the first team allows the other teams, one by one, the ways with the same legs. */
    private int countFairWays(int ways) {
        int most = Math.min(ways, MOST_TEAM_WAYS);
        for (int way = 0; way < most; way++) {
            listLegs(way, relay.runs[0], way);
        }
        int sum = 0;
        for (int way = 0; way < most; way++) {
            int alike = 0;
            for (int other = 0; other < most; other++) {
                alike += relay.haveSameLegs(way, other) ? 1 : 0;
            }
            int product = 1;
            for (int team = 1; team < relay.teams; team++) {
                product *= alike;
            }
            sum += product;
        }
        return sum;
    }

    private void listWays(int from, int cell, int start, int pace) {
        ground.spread(cell, false, false, NO_WAY);
        for (int to = 0; to < controlCount; to++) {
            tour.setWay(from, to, ground.ways[controls[to].cell], pace);
        }
        tour.setWay(from, Tour.START, ground.ways[start], pace);
    }

    private boolean hasTimeFor(Entrant one, int cell) {
        ground.spread(cell, false, true, NO_WAY);
        for (int i = 0; i < one.fixes; i++) {
            costsTo[i] = ground.ways[one.fixCells[i]];
        }
        ground.spread(cell, false, false, NO_WAY);
        for (int i = 1; i < one.fixes; i++) {
            int onward = ground.ways[one.fixCells[i]];
            // Fixes may lie further apart than NO_WAY, so a missing way is asked for on its own.
            if (costsTo[i - 1] < NO_WAY && onward < NO_WAY
                    && costsTo[i - 1] + onward <= one.fixSeconds[i] - one.fixSeconds[i - 1]) {
                return true;
            }
        }
        return false;
    }

    /** The land, the map of it, and the best ways on either. */
    private static final class Terrain {
        int cells;
        final int[] growths = new int[MOST_CELLS];
        final int[] heights = new int[MOST_CELLS];
        final char[] kinds = new char[MOST_CELLS];
        final int[] shownGrowths = new int[MOST_CELLS];
        final char[] shownKinds = new char[MOST_CELLS];
        /** What the best ways cost that the last spread found. */
        final int[] ways = new int[MOST_CELLS];
        private final int[] columnOf = new int[MOST_CELLS];
        private final int[] rowOf = new int[MOST_CELLS];
        /** For each cell those beside it by rising numbers, NONE beyond the edge. */
        private final int[] besides = new int[MOST_CELLS * SIDES];
        private final int[] queue = new int[MOST_CELLS];
        private final boolean[] isQueued = new boolean[MOST_CELLS];
        private int head;
        private int waiting;

        void begin(int columns, int rows) {
            cells = columns * rows;
            Arrays.fill(growths, 0);
            Arrays.fill(heights, 0);
            for (int row = 0; row < rows; row++) {
                for (int column = 0; column < columns; column++) {
                    int cell = row * columns + column;
                    kinds[cell] = OPEN;
                    columnOf[cell] = column;
                    rowOf[cell] = row;
                    besides[cell * SIDES] = row > 0 ? cell - columns : NONE;
                    besides[cell * SIDES + 1] = column > 0 ? cell - 1 : NONE;
                    besides[cell * SIDES + 2] = column + 1 < columns ? cell + 1 : NONE;
                    besides[cell * SIDES + 3] = row + 1 < rows ? cell + columns : NONE;
                }
            }
            printMap();
        }

        int printMap() {
            int changed = 0;
            for (int cell = 0; cell < cells; cell++) {
                if (shownGrowths[cell] != growths[cell] || shownKinds[cell] != kinds[cell]) {
                    changed++;
                }
                shownGrowths[cell] = growths[cell];
                shownKinds[cell] = kinds[cell];
            }
            return changed;
        }

        int apart(int cell, int other) {
            return Math.abs(columnOf[cell] - columnOf[other]) + Math.abs(rowOf[cell] - rowOf[other]);
        }

        int bestCost(int from, int to, boolean isMap) {
            spread(from, isMap, false, NO_WAY);
            return ways[to];
        }

        /** What the first of the best ways on the map costs on the land, NO_WAY if it can't be gone. */
        int costOfMapWay(int from, int to) {
            spread(to, true, true, NO_WAY);
            if (ways[from] >= NO_WAY) {
                return NO_WAY;
            }
            int cell = from;
            int sum = 0;
            for (int steps = 0; cell != to && steps < MOST_CELLS; steps++) {
                int next = nextOnMapWay(cell);
                if (next == NONE || kinds[next] == WATER) {
                    return NO_WAY;
                }
                sum += step(cell, next, false);
                cell = next;
            }
            return sum;
        }

        private int nextOnMapWay(int cell) {
            for (int side = 0; side < SIDES; side++) {
                int next = besides[cell * SIDES + side];
                if (next != NONE && canEnter(next, true) && ways[next] + step(cell, next, true) == ways[cell]) {
                    return next;
                }
            }
            return NONE;
        }

        private boolean canEnter(int cell, boolean isMap) {
            return isMap ? shownKinds[cell] == OPEN : kinds[cell] != WATER;
        }

        private int step(int from, int to, boolean isMap) {
            int growth = isMap ? shownGrowths[to] : growths[to];
            int climb = Math.max(0, heights[to] - heights[from]);
            return STEP_COST + GROWTH_COST * growth + CLIMB_COST * climb;
        }

        /** Finds the ways from an origin, or back to it, and goes no further where they cost farthest or more. */
        void spread(int origin, boolean isMap, boolean isBack, int farthest) {
            Arrays.fill(ways, NO_WAY);
            head = 0;
            waiting = 0;
            reach(origin, 0);
            // A cell is reached anew in at most as many rounds as there are cells.
            for (int turn = 0; waiting > 0 && turn < MOST_CELLS * MOST_CELLS; turn++) {
                int cell = takeFirst();
                if (ways[cell] < farthest && (!isBack || canEnter(cell, isMap))) {
                    spreadFrom(cell, isMap, isBack);
                }
            }
        }

        private void spreadFrom(int cell, boolean isMap, boolean isBack) {
            for (int side = 0; side < SIDES; side++) {
                int next = besides[cell * SIDES + side];
                if (next != NONE && isBack) {
                    reach(next, ways[cell] + step(next, cell, isMap));
                } else if (next != NONE && canEnter(next, isMap)) {
                    reach(next, ways[cell] + step(cell, next, isMap));
                }
            }
        }

        private void reach(int cell, int cost) {
            if (cost >= ways[cell]) {
                return;
            }
            ways[cell] = cost;
            if (!isQueued[cell] && waiting < MOST_CELLS) {
                int tail = head + waiting;
                queue[tail < MOST_CELLS ? tail : tail - MOST_CELLS] = cell;
                isQueued[cell] = true;
                waiting++;
            }
        }

        private int takeFirst() {
            int cell = queue[head];
            head = head + 1 < MOST_CELLS ? head + 1 : 0;
            waiting--;
            isQueued[cell] = false;
            return cell;
        }

        boolean hasNoDearWay() {
            for (int cell = 0; cell < cells; cell++) {
                spread(cell, true, false, dearestStep(cell));
                for (int side = 0; side < SIDES; side++) {
                    int next = besides[cell * SIDES + side];
                    if (next != NONE && canEnter(next, true) && ways[next] > step(cell, next, true)) {
                        return false;
                    }
                }
            }
            return true;
        }

        private int dearestStep(int cell) {
            int dearest = 0;
            for (int side = 0; side < SIDES; side++) {
                int next = besides[cell * SIDES + side];
                if (next != NONE && canEnter(next, true)) {
                    dearest = Math.max(dearest, step(cell, next, true));
                }
            }
            return dearest;
        }
    }

    /** A control. */
    private static final class Post {
        int cell;
        int site;
        int points;
        int deadFrom;
        int deadTo;
        int stolenFrom;

        void begin(int itsCell, int itsSite, int itsPoints) {
            cell = itsCell;
            site = itsSite;
            points = itsPoints;
            deadFrom = 0;
            deadTo = NONE;
            stolenFrom = NONE;
        }

        boolean isDeadAt(int seconds) {
            return seconds >= deadFrom && seconds <= deadTo;
        }

        boolean isStolenBy(int seconds) {
            return stolenFrom != NONE && stolenFrom <= seconds;
        }
    }

    /** A course. */
    private static final class Route {
        int start;
        int places;
        final int[] controls = new int[MOST_PLACES];
        /** The other controls of the forks, NONE where there is no fork. */
        final int[] others = new int[MOST_PLACES];
        final boolean[] voids = new boolean[MOST_LEGS];

        void begin(int itsStart) {
            start = itsStart;
            places = 0;
            for (int leg = 0; leg < MOST_LEGS; leg++) {
                voids[leg] = false;
            }
        }

        int forks() {
            return forksAhead(places);
        }

        private int forksAhead(int place) {
            int count = 0;
            for (int i = 0; i < place; i++) {
                if (others[i] != NONE) {
                    count++;
                }
            }
            return count;
        }

        int controlAt(int place, int branches) {
            boolean isOther = others[place] != NONE && (branches >> forksAhead(place) & 1) == 1;
            return isOther ? others[place] : controls[place];
        }
    }

    /** A runner, with what was told of the run and what was worked out of it last. */
    private static final class Entrant {
        int club;
        int course;
        int branches;
        int start;
        int ruledStart;
        int finish;
        int punches;
        final int[] punchControls = new int[MOST_PUNCHES];
        final int[] punchSeconds = new int[MOST_PUNCHES];
        int fixes;
        final int[] fixCells = new int[MOST_FIXES];
        final int[] fixSeconds = new int[MOST_FIXES];
        char state;
        /** By places the seconds at which a control was found, or NONE; then those of the finish. */
        final int[] found = new int[MOST_LEGS];
        final int[] splits = new int[MOST_LEGS];
        private int voidSeconds;

        void begin(int itsClub, int itsCourse, int itsStart) {
            club = itsClub;
            course = itsCourse;
            branches = 0;
            start = itsStart;
            ruledStart = NONE;
            finish = NONE;
            punches = 0;
            fixes = 0;
            state = 'n';
        }

        int countedStart() {
            return ruledStart == NONE ? start : ruledStart;
        }

        int lastSeconds() {
            return punches > 0 ? punchSeconds[punches - 1] : start;
        }

        void keep(int control, int seconds) {
            if (punches < MOST_PUNCHES) {
                punchControls[punches] = control;
                punchSeconds[punches] = seconds;
                punches++;
            }
        }

        int countedTime() {
            return finish - countedStart() - voidSeconds;
        }

        void findControls(Route route) {
            int from = 0;
            for (int place = 0; place < route.places; place++) {
                int at = punchOf(route.controlAt(place, branches), from);
                found[place] = at == NONE ? NONE : punchSeconds[at];
                from = at == NONE ? from : at + 1;
            }
            found[route.places] = finish;
        }

        private int punchOf(int control, int from) {
            for (int i = from; i < punches; i++) {
                if (punchControls[i] == control) {
                    return i;
                }
            }
            return NONE;
        }

        void takeSplits(Route route) {
            int last = start;
            for (int leg = 0; leg <= route.places; leg++) {
                if (found[leg] == NONE) {
                    splits[leg] = NONE;
                } else {
                    splits[leg] = found[leg] - last;
                    last = found[leg];
                }
            }
            voidSeconds = sumOfVoid(route);
        }

        private int sumOfVoid(Route route) {
            int sum = 0;
            for (int leg = 0; leg <= route.places; leg++) {
                // A split from an excused control holds more than its leg, so it is not taken off.
                boolean isWhole = splits[leg] != NONE && (leg == 0 || found[leg - 1] != NONE);
                if (route.voids[leg] && isWhole) {
                    sum += splits[leg];
                }
            }
            return sum;
        }

        boolean addsUp(Route route) {
            int sum = 0;
            for (int leg = 0; leg <= route.places; leg++) {
                sum += splits[leg] == NONE ? 0 : splits[leg];
            }
            return sum == finish - start && countedTime() == sum - sumOfVoid(route) - (countedStart() - start);
        }
    }

    /** The relay that there is, and lists of legs to compare. */
    private static final class Relay {
        int course;
        int teams;
        final int[] runs = new int[MOST_TEAMS];
        final int[] branches = new int[MOST_TEAMS * MOST_RUNS];
        final int[] legs = new int[MOST_TEAM_WAYS * MOST_TEAM_LEGS];
        final int[] legCounts = new int[MOST_TEAM_WAYS];

        void begin(int team, int itsRuns) {
            runs[team] = itsRuns;
            for (int run = 0; run < MOST_RUNS; run++) {
                branches[team * MOST_RUNS + run] = 0;
            }
        }

        int bitsOf(int team, int forks) {
            int bits = 0;
            for (int run = 0; run < runs[team]; run++) {
                bits |= branches[team * MOST_RUNS + run] << run * forks;
            }
            return bits;
        }

        int allRuns() {
            int sum = 0;
            for (int team = 0; team < teams; team++) {
                sum += runs[team];
            }
            return sum;
        }

        boolean hasEvenRuns() {
            for (int team = 1; team < teams; team++) {
                if (runs[team] != runs[0]) {
                    return false;
                }
            }
            return true;
        }

        boolean haveSameLegs(int list, int other) {
            if (legCounts[list] != legCounts[other]) {
                return false;
            }
            for (int i = 0; i < legCounts[list]; i++) {
                if (legs[list * MOST_TEAM_LEGS + i] != legs[other * MOST_TEAM_LEGS + i]) {
                    return false;
                }
            }
            return true;
        }
    }

    /** Tours of a score: for each set of controls and the last one of it the fewest seconds. */
    private static final class Tour {
        /** The number of the start among the controls. */
        static final int START = MOST_CONTROLS;
        private static final int STOPS = MOST_CONTROLS + 1;

        final int[] points = new int[MOST_CONTROLS];
        private final int[] wayTimes = new int[STOPS * STOPS];
        private final int[] tourTimes = new int[(1 << MOST_CONTROLS) * MOST_CONTROLS];

        void setWay(int from, int to, int cost, int pace) {
            wayTimes[from * STOPS + to] = cost >= NO_WAY ? NO_WAY : cost * pace / 1000;
        }

        int mostPoints(int count, int limit) {
            int most = 0;
            for (int set = 1; set < 1 << count; set++) {
                if (canComeBack(set, count, limit)) {
                    most = Math.max(most, pointsOf(set, count));
                }
            }
            return most;
        }

        /** Fills in the tours of a set, whose parts are done before it, since they are lower numbers. */
        private boolean canComeBack(int set, int count, int limit) {
            boolean isBack = false;
            for (int last = 0; last < count; last++) {
                if ((set >> last & 1) == 1) {
                    int seconds = fewestSeconds(set, last, count);
                    tourTimes[set * MOST_CONTROLS + last] = seconds;
                    isBack |= seconds + wayTimes[last * STOPS + START] <= limit;
                }
            }
            return isBack;
        }

        private int fewestSeconds(int set, int last, int count) {
            int before = set ^ 1 << last;
            if (before == 0) {
                return wayTimes[START * STOPS + last];
            }
            int fewest = NO_WAY;
            for (int stop = 0; stop < count; stop++) {
                if ((before >> stop & 1) == 1) {
                    int seconds = tourTimes[before * MOST_CONTROLS + stop] + wayTimes[stop * STOPS + last];
                    fewest = Math.min(fewest, seconds);
                }
            }
            return fewest;
        }

        private int pointsOf(int set, int count) {
            int sum = 0;
            for (int i = 0; i < count; i++) {
                if ((set >> i & 1) == 1) {
                    sum += points[i];
                }
            }
            return sum;
        }
    }
}
