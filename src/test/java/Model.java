import java.util.ArrayList;
import java.util.Arrays;
import java.util.Comparator;
import java.util.HashMap;
import java.util.List;
import java.util.Map;
import java.util.NoSuchElementException;

/**
 * The document once more, sentence by sentence, in the slowest and simplest form: with lists, without any care for
 * speed, and without any code of the class. ModelTest asks both the same.
 */
final class Model {
    private static final int FAR = 1 << 28;

    static final class Control {
        int cell;
        int site;
        int points;
        int deadFrom;
        int deadTo = -1;
        int stolen = -1;

        boolean isDeadAt(int seconds) {
            return deadFrom <= seconds && seconds <= deadTo;
        }
    }

    static final class Course {
        int start;
        final List<Control> own = new ArrayList<>();
        /** For each place the control of its fork, or null. */
        final List<Control> other = new ArrayList<>();
        final boolean[] voids = new boolean[10];

        int forks() {
            return (int) other.stream().filter(control -> control != null).count();
        }

        List<Control> controls(int branches) {
            List<Control> all = new ArrayList<>();
            int bits = branches;
            for (int place = 0; place < own.size(); place++) {
                boolean isFork = other.get(place) != null;
                all.add(isFork && bits % 2 == 1 ? other.get(place) : own.get(place));
                bits = isFork ? bits / 2 : bits;
            }
            return all;
        }

        List<int[]> legs(int branches) {
            List<int[]> legs = new ArrayList<>();
            int at = start;
            for (Control control : controls(branches)) {
                legs.add(new int[] {at, control.cell});
                at = control.cell;
            }
            legs.add(new int[] {at, start});
            return legs;
        }
    }

    static final class Punch {
        Control control;
        int number;
        int seconds;
    }

    static final class Runner {
        int club;
        Course course;
        int branches;
        Integer start;
        Integer ruled;
        Integer finish;
        final List<Punch> punches = new ArrayList<>();
        final List<int[]> fixes = new ArrayList<>();

        int counts() {
            return ruled != null ? ruled : start;
        }

        int last() {
            return punches.isEmpty() ? start : punches.get(punches.size() - 1).seconds;
        }
    }

    static final class Result {
        char state;
        int time;
        Integer[] splits;
    }

    int columns = 5;
    int rows = 5;
    private int[] height = new int[25];
    /** Growths and kinds, of the land at 0 and of the map at 1. */
    private int[][] growth = new int[2][25];
    private char[][] kind = {open(25), open(25)};
    final List<Control> controls = new ArrayList<>();
    final List<Course> courses = new ArrayList<>();
    final List<Runner> runners = new ArrayList<>();
    private Course relayOf;
    /** For each team the branches of its runs. */
    final List<int[]> teams = new ArrayList<>();

    private static char[] open(int cells) {
        char[] all = new char[cells];
        Arrays.fill(all, '.');
        return all;
    }

    int cells() {
        return columns * rows;
    }

    // ---- land and map

    int land(int columns, int rows) {
        argument(3 <= columns && columns <= 12 && 3 <= rows && rows <= 12);
        this.columns = columns;
        this.rows = rows;
        height = new int[cells()];
        growth = new int[2][cells()];
        kind = new char[][] {open(cells()), open(cells())};
        controls.clear();
        courses.clear();
        runners.clear();
        teams.clear();
        relayOf = null;
        return cells();
    }

    int cell(int cell, int growth, int height, char kind) {
        index(cell, cells());
        argument(0 <= growth && growth <= 9 && 0 <= height && height <= 9 && isKind(kind));
        int before = this.growth[0][cell];
        this.growth[0][cell] = growth;
        this.height[cell] = height;
        this.kind[0][cell] = kind;
        return before;
    }

    int print() {
        int count = 0;
        for (int cell = 0; cell < cells(); cell++) {
            boolean isSame = growth[0][cell] == growth[1][cell] && kind[0][cell] == kind[1][cell];
            count += isSame ? 0 : 1;
        }
        growth[1] = growth[0].clone();
        kind[1] = kind[0].clone();
        return count;
    }

    int show(int cell, int growth, char kind) {
        index(cell, cells());
        argument(0 <= growth && growth <= 9 && isKind(kind));
        int before = this.growth[1][cell];
        this.growth[1][cell] = growth;
        this.kind[1][cell] = kind;
        return before;
    }

    int cost(int from, int to, boolean isMap) {
        index(from, cells());
        index(to, cells());
        return some(waysTo(to, isMap ? 1 : 0)[from]);
    }

    int misled(int from, int to) {
        index(from, cells());
        index(to, cells());
        List<Integer> way = firstWay(from, to);
        if (way == null) {
            throw new NoSuchElementException();
        }
        int sum = 0;
        for (int i = 1; i < way.size(); i++) {
            sum = Math.min(FAR, sum + step(way.get(i - 1), way.get(i), 0));
        }
        return some(sum);
    }

    private static boolean isKind(char kind) {
        return kind == '.' || kind == 'w' || kind == 'x';
    }

    private boolean areBeside(int cell, int other) {
        int down = Math.abs(cell / columns - other / columns);
        int along = Math.abs(cell % columns - other % columns);
        return down + along == 1;
    }

    private int step(int from, int to, int is) {
        boolean isShut = kind[is][to] == 'w' || is == 1 && kind[is][to] == 'x';
        if (isShut || !areBeside(from, to)) {
            return FAR;
        }
        return 10 + 5 * growth[is][to] + (height[to] > height[from] ? 6 * (height[to] - height[from]) : 0);
    }

    /** What the best way from each cell costs. */
    private int[] waysTo(int to, int is) {
        int[] ways = new int[cells()];
        Arrays.fill(ways, FAR);
        ways[to] = 0;
        boolean isBetter = true;
        while (isBetter) {
            isBetter = false;
            for (int from = 0; from < cells(); from++) {
                for (int next : beside(from)) {
                    int cost = step(from, next, is) + ways[next];
                    if (cost < ways[from]) {
                        ways[from] = cost;
                        isBetter = true;
                    }
                }
            }
        }
        return ways;
    }

    private List<Integer> beside(int cell) {
        List<Integer> all = new ArrayList<>();
        for (int other : new int[] {cell - columns, cell - 1, cell + 1, cell + columns}) {
            if (other >= 0 && other < cells() && areBeside(cell, other)) {
                all.add(other);
            }
        }
        return all;
    }

    /** The first one by its cells of all best ways on the map, cells that are nearer to the end being done ahead. */
    private List<Integer> firstWay(int from, int to) {
        int[] ways = waysTo(to, 1);
        Map<Integer, List<Integer>> first = new HashMap<>();
        first.put(to, List.of(to));
        List<Integer> order = new ArrayList<>();
        for (int cell = 0; cell < cells(); cell++) {
            if (cell != to && ways[cell] < FAR) {
                order.add(cell);
            }
        }
        order.sort(Comparator.comparingInt(cell -> ways[cell]));
        for (int cell : order) {
            for (int next : beside(cell)) {
                if (step(cell, next, 1) + ways[next] == ways[cell]) {
                    List<Integer> way = new ArrayList<>(List.of(cell));
                    way.addAll(first.get(next));
                    first.merge(cell, way, Model::earlier);
                }
            }
        }
        return first.get(from);
    }

    private static List<Integer> earlier(List<Integer> way, List<Integer> other) {
        for (int i = 0; i < Math.min(way.size(), other.size()); i++) {
            if (!way.get(i).equals(other.get(i))) {
                return way.get(i) < other.get(i) ? way : other;
            }
        }
        return way;
    }

    // ---- controls, courses, forks

    int control(int cell, int site, int points) {
        index(cell, cells());
        argument(0 <= site && site <= 3 && 0 <= points && points <= 99);
        unsupported(kind[0][cell] != 'w');
        state(controls.size() < 12);
        Control control = new Control();
        control.cell = cell;
        control.site = site;
        control.points = points;
        controls.add(control);
        return controls.size() - 1;
    }

    boolean areNear(int control, int other) {
        index(control, controls.size());
        index(other, controls.size());
        return areNear(controls.get(control), controls.get(other));
    }

    private boolean areNear(Control one, Control other) {
        int apart = Math.abs(one.cell / columns - other.cell / columns)
                + Math.abs(one.cell % columns - other.cell % columns);
        return apart < 3 || one.site == other.site && apart < 6;
    }

    int course(int start) {
        index(start, cells());
        state(courses.size() < 6);
        Course course = new Course();
        course.start = start;
        courses.add(course);
        return courses.size() - 1;
    }

    int add(int course, int control) {
        index(course, courses.size());
        index(control, controls.size());
        Course one = courses.get(course);
        unsupported(entered(one).isEmpty());
        state(one.own.size() < 9);
        one.own.add(controls.get(control));
        one.other.add(null);
        return one.own.size();
    }

    int fork(int course, int place, int control) {
        index(course, courses.size());
        Course one = courses.get(course);
        index(place, one.own.size());
        index(control, controls.size());
        unsupported(entered(one).isEmpty());
        argument(one.own.get(place) != controls.get(control));
        one.other.set(place, controls.get(control));
        return one.forks();
    }

    boolean isLawful(int course) {
        index(course, courses.size());
        Course one = courses.get(course);
        boolean isLawful = !one.own.isEmpty();
        for (int i = 0; i < one.own.size(); i++) {
            isLawful &= one.own.get(i).cell != one.start;
            for (int k = i + 1; k < one.own.size(); k++) {
                isLawful &= one.own.get(i) != one.own.get(k) && !areNear(one.own.get(i), one.own.get(k));
            }
        }
        for (int[] leg : one.legs(0)) {
            isLawful &= waysTo(leg[1], 1)[leg[0]] < FAR;
        }
        return isLawful;
    }

    int lengthOf(int course) {
        index(course, courses.size());
        int sum = 0;
        for (int[] leg : courses.get(course).legs(0)) {
            sum += some(waysTo(leg[1], 1)[leg[0]]);
        }
        return sum;
    }

    private List<Runner> entered(Course course) {
        List<Runner> all = new ArrayList<>();
        for (Runner runner : runners) {
            if (runner.course == course) {
                all.add(runner);
            }
        }
        return all;
    }

    // ---- runners and starts

    int runner(int club, int course) {
        argument(0 <= club && club <= 9);
        index(course, courses.size());
        state(runners.size() < 12);
        return enter(club, courses.get(course)) - 1;
    }

    private int enter(int club, Course course) {
        Runner runner = new Runner();
        runner.club = club;
        runner.course = course;
        runners.add(runner);
        return runners.size();
    }

    int branches(int runner, int branches) {
        index(runner, runners.size());
        Runner one = runners.get(runner);
        argument(0 <= branches && branches < Math.pow(2, one.course.forks()));
        unsupported(one.punches.isEmpty() && one.finish == null);
        int before = one.branches;
        one.branches = branches;
        return before;
    }

    int start(int runner, int seconds) {
        index(runner, runners.size());
        argument(0 <= seconds && seconds <= 99999);
        Runner one = runners.get(runner);
        unsupported(one.punches.isEmpty() && one.finish == null);
        int before = one.start == null ? -1 : one.start;
        one.start = seconds;
        return before;
    }

    int draw(int course, int seed, int first, int interval) {
        index(course, courses.size());
        argument(0 <= seed && seed <= 99999 && 0 <= first && first <= 9999 && 0 <= interval && interval <= 999);
        List<Runner> left = new ArrayList<>();
        for (Runner one : entered(courses.get(course))) {
            unsupported(one.punches.isEmpty() || one.finish != null);
            if (one.finish == null) {
                left.add(one);
            }
        }
        List<Runner> lots = new ArrayList<>();
        java.math.BigInteger z = java.math.BigInteger.valueOf(seed);
        while (!left.isEmpty()) {
            z = z.multiply(java.math.BigInteger.valueOf(1103515245)).add(java.math.BigInteger.valueOf(12345))
                    .mod(java.math.BigInteger.valueOf(2147483648L));
            lots.add(left.remove((int) (z.longValueExact() / 65536 % left.size())));
        }
        List<Runner> list = new ArrayList<>();
        while (!lots.isEmpty()) {
            Runner next = null;
            for (Runner one : lots) {
                boolean isOther = list.isEmpty() || list.get(list.size() - 1).club != one.club;
                next = next == null && isOther ? one : next;
            }
            list.add(next == null ? lots.get(0) : next);
            lots.remove(list.get(list.size() - 1));
        }
        int seconds = first;
        for (Runner one : list) {
            one.start = seconds;
            seconds += interval;
        }
        return list.size();
    }

    int startOf(int runner) {
        index(runner, runners.size());
        return some(runners.get(runner).start);
    }

    // ---- punches and rulings

    int punch(int runner, int control, int seconds) {
        index(runner, runners.size());
        index(control, controls.size());
        Runner one = runners.get(runner);
        unsupported(one.start != null && one.finish == null);
        argument(one.last() <= seconds && seconds <= 99999);
        state(one.punches.size() < 20);
        Punch punch = new Punch();
        punch.control = controls.get(control);
        punch.number = control;
        punch.seconds = seconds;
        if (!punch.control.isDeadAt(seconds)) {
            one.punches.add(punch);
        }
        return one.punches.size();
    }

    int finish(int runner, int seconds) {
        index(runner, runners.size());
        Runner one = runners.get(runner);
        unsupported(one.start != null && one.finish == null);
        argument(one.last() <= seconds && seconds <= 99999);
        one.finish = seconds;
        return seconds - one.start;
    }

    int dead(int control, int from, int to) {
        index(control, controls.size());
        argument(from >= 0 && to >= 0 && to >= from);
        Control one = controls.get(control);
        one.deadFrom = from;
        one.deadTo = to;
        int count = 0;
        for (Runner runner : runners) {
            for (Punch punch : runner.punches) {
                count += punch.control == one && one.isDeadAt(punch.seconds) ? 1 : 0;
            }
        }
        return count;
    }

    int stolen(int control, int from) {
        index(control, controls.size());
        argument(from >= -1);
        int before = controls.get(control).stolen;
        controls.get(control).stolen = from;
        return before;
    }

    boolean voided(int course, int leg, boolean is) {
        index(course, courses.size());
        Course one = courses.get(course);
        index(leg, one.own.size() + 1);
        boolean before = one.voids[leg];
        one.voids[leg] = is;
        return before;
    }

    int rule(int runner, int seconds) {
        index(runner, runners.size());
        Runner one = runners.get(runner);
        unsupported(one.start != null);
        argument(-1 <= seconds && seconds <= 99999);
        int before = one.counts();
        one.ruled = seconds == -1 ? null : Integer.valueOf(seconds);
        return before;
    }

    // ---- results

    char state(int runner) {
        index(runner, runners.size());
        return result(runners.get(runner)).state;
    }

    int time(int runner) {
        index(runner, runners.size());
        return ok(runner).time;
    }

    int split(int runner, int leg) {
        leg(runner, leg);
        return some(ok(runner).splits[leg]);
    }

    int place(int runner) {
        index(runner, runners.size());
        int time = ok(runner).time;
        return 1 + (int) times(runners.get(runner).course).stream().filter(other -> other < time).count();
    }

    int reference(int runner, int leg) {
        leg(runner, leg);
        ok(runner);
        return some(referenceOf(runners.get(runner), leg));
    }

    int pace(int runner) {
        index(runner, runners.size());
        Integer[] splits = ok(runner).splits;
        List<Integer> rates = new ArrayList<>();
        for (int leg = 0; leg < splits.length; leg++) {
            Integer reference = referenceOf(runners.get(runner), leg);
            if (splits[leg] != null && reference != 0) {
                rates.add((int) (1000L * splits[leg] / reference));
            }
        }
        if (rates.isEmpty()) {
            throw new NoSuchElementException();
        }
        rates.sort(null);
        while (rates.size() > 2) {
            rates.remove(rates.size() - 1);
            rates.remove(0);
        }
        return rates.get(0);
    }

    int loss(int runner, int leg) {
        int split = split(runner, leg);
        long due = (long) pace(runner) * reference(runner, leg) / 1000;
        return (int) Math.max(0, split - due);
    }

    int points(int runner) {
        index(runner, runners.size());
        int own = ok(runner).time;
        if (own == 0) {
            throw new NoSuchElementException();
        }
        List<Integer> times = times(runners.get(runner).course);
        times.sort(null);
        List<Integer> best = times.subList(0, Math.min(3, times.size()));
        int mean = best.stream().mapToInt(time -> time).sum() / best.size();
        return 1000 * mean / own;
    }

    private void leg(int runner, int leg) {
        index(runner, runners.size());
        index(leg, runners.get(runner).course.own.size() + 1);
    }

    private Result ok(int runner) {
        Result result = result(runners.get(runner));
        if (result.state != 'o') {
            throw new NoSuchElementException();
        }
        return result;
    }

    private Result result(Runner runner) {
        Result result = new Result();
        if (runner.start == null || runner.finish == null) {
            result.state = runner.start == null ? 'n' : 'r';
            return result;
        }
        List<Control> due = runner.course.controls(runner.branches);
        Integer[] found = found(runner, due);
        result.state = isOutOfBounds(runner) ? 'x' : isMissing(due, found) ? 'm' : 'o';
        result.splits = new Integer[due.size() + 1];
        result.time = runner.finish - runner.counts();
        int ahead = 0;
        for (int leg = 0; leg < result.splits.length; leg++) {
            if (found[leg + 1] != null) {
                result.splits[leg] = found[leg + 1] - found[ahead];
                boolean isFromExcused = ahead != leg;
                if (runner.course.voids[leg] && !isFromExcused) {
                    result.time -= result.splits[leg];
                }
                ahead = leg + 1;
            }
        }
        return result;
    }

    /** The seconds of the start, of each control that was found, and of the finish. */
    private static Integer[] found(Runner runner, List<Control> due) {
        Integer[] found = new Integer[due.size() + 2];
        found[0] = runner.start;
        found[due.size() + 1] = runner.finish;
        List<Punch> left = runner.punches;
        for (int place = 0; place < due.size(); place++) {
            for (Punch punch : left) {
                if (punch.control == due.get(place)) {
                    found[place + 1] = punch.seconds;
                    left = left.subList(left.indexOf(punch) + 1, left.size());
                    break;
                }
            }
        }
        return found;
    }

    private static boolean isMissing(List<Control> due, Integer[] found) {
        for (int place = 0; place < due.size(); place++) {
            int next = place + 1;
            while (found[next] == null) {
                next++;
            }
            int stolen = due.get(place).stolen;
            boolean isExcused = stolen != -1 && stolen <= found[next];
            if (found[place + 1] == null && !isExcused) {
                return true;
            }
        }
        return false;
    }

    private boolean isOutOfBounds(Runner runner) {
        return runner.fixes.stream().anyMatch(fix -> kind[0][fix[0]] == 'x');
    }

    private List<Runner> ok(Course course) {
        List<Runner> all = new ArrayList<>(entered(course));
        all.removeIf(runner -> result(runner).state != 'o');
        return all;
    }

    private List<Integer> times(Course course) {
        List<Integer> times = new ArrayList<>();
        for (Runner runner : ok(course)) {
            times.add(result(runner).time);
        }
        return times;
    }

    private Integer referenceOf(Runner runner, int leg) {
        int[] ends = runner.course.legs(runner.branches).get(leg);
        List<Integer> splits = new ArrayList<>();
        for (Runner other : ok(runner.course)) {
            Integer split = result(other).splits[leg];
            if (split != null && Arrays.equals(ends, other.course.legs(other.branches).get(leg))) {
                splits.add(split);
            }
        }
        if (splits.isEmpty()) {
            return null;
        }
        splits.sort(null);
        int half = splits.size() - splits.size() / 2;
        return splits.subList(0, half).stream().mapToInt(split -> split).sum() / half;
    }

    // ---- relays, chases, scores, tracks

    int team(int course, int runs) {
        index(course, courses.size());
        argument(1 <= runs && runs <= 3);
        boolean isSame = relayOf == courses.get(course);
        state(!isSame || teams.size() < 6);
        if (!isSame) {
            teams.clear();
            relayOf = courses.get(course);
        }
        teams.add(new int[runs]);
        return teams.size() - 1;
    }

    int runs(int team, int run, int branches) {
        index(team, teams.size());
        index(run, teams.get(team).length);
        argument(0 <= branches && branches < Math.pow(2, relayOf.forks()));
        int before = teams.get(team)[run];
        teams.get(team)[run] = branches;
        return before;
    }

    boolean isFair() {
        return isFair(teams);
    }

    private boolean isFair(List<int[]> told) {
        boolean isFair = true;
        for (int[] team : told) {
            isFair &= team.length == told.get(0).length && legsOf(team).equals(legsOf(told.get(0)));
        }
        return isFair;
    }

    private Map<String, Integer> legsOf(int[] team) {
        Map<String, Integer> counts = new HashMap<>();
        for (int branches : team) {
            for (int[] leg : relayOf.legs(branches)) {
                counts.merge(leg[0] + " to " + leg[1], 1, Integer::sum);
            }
        }
        return counts;
    }

    int fairWays() {
        if (teams.isEmpty()) {
            return 1;
        }
        int forks = relayOf.forks();
        long ways = 1;
        for (int[] team : teams) {
            ways = Math.min(1L << 40, ways << forks * team.length);
        }
        unsupported(ways <= 4096);
        int count = 0;
        for (int way = 0; way < ways; way++) {
            List<int[]> told = new ArrayList<>();
            int left = way;
            for (int[] team : teams) {
                int[] one = new int[team.length];
                for (int run = 0; run < one.length; run++) {
                    one[run] = left % (1 << forks);
                    left /= 1 << forks;
                }
                told.add(one);
            }
            count += isFair(told) ? 1 : 0;
        }
        return count;
    }

    int changeover(int run, int start, int seconds, int restart) {
        argument(0 <= run && run <= 2 && 0 <= start && start <= 99999);
        argument(0 <= seconds && seconds <= 99999 && -1 <= restart && restart <= 99999);
        if (run == 0) {
            return start;
        }
        int finish = changeover(run - 1, start, seconds, restart) + seconds;
        return restart != -1 && restart < finish ? restart : finish;
    }

    int chase(int course, int other, int first) {
        index(course, courses.size());
        index(other, courses.size());
        argument(0 <= first && first <= 9999);
        List<Runner> list = ok(courses.get(course));
        state(runners.size() + list.size() <= 12);
        list.sort(Comparator.comparingInt(runner -> result(runner).time));
        for (Runner one : list) {
            int behind = result(one).time - result(list.get(0)).time;
            int number = enter(one.club, courses.get(other)) - 1;
            runners.get(number).start = first + behind;
        }
        return list.size();
    }

    int score(int start, int limit, int pace) {
        index(start, cells());
        argument(0 <= limit && limit <= 9999 && 1 <= pace && pace <= 9999);
        Map<Integer, int[]> waysTo = new HashMap<>();
        waysTo.put(start, waysTo(start, 0));
        for (Control control : controls) {
            waysTo.put(control.cell, waysTo(control.cell, 0));
        }
        return Math.max(0, most(new ArrayList<>(controls), start, start, limit, pace, waysTo));
    }

    /** The most points from a cell on, back at the start in the seconds that are left; -1 if there is no way back. */
    private int most(List<Control> left, int at, int start, int seconds, int pace, Map<Integer, int[]> waysTo) {
        int most = rest(at, start, seconds, pace, waysTo) >= 0 ? 0 : -1;
        for (int i = 0; i < left.size(); i++) {
            Control next = left.get(i);
            int rest = rest(at, next.cell, seconds, pace, waysTo);
            if (rest >= 0) {
                List<Control> others = new ArrayList<>(left);
                others.remove(i);
                int onward = most(others, next.cell, start, rest, pace, waysTo);
                most = Math.max(most, onward < 0 ? -1 : next.points + onward);
            }
        }
        return most;
    }

    private static int rest(int from, int to, int seconds, int pace, Map<Integer, int[]> waysTo) {
        int cost = waysTo.get(to)[from];
        return cost >= FAR ? -1 : (int) Math.max(-1, seconds - (long) cost * pace / 1000);
    }

    int late(int points, int late, int each) {
        argument(0 <= points && points <= 9999 && 0 <= late && late <= 9999 && 0 <= each && each <= 99);
        int left = points;
        for (int seconds = 0; seconds < late; seconds += 60) {
            left -= each;
        }
        return left < 0 ? 0 : left;
    }

    int fix(int runner, int cell, int seconds) {
        index(runner, runners.size());
        index(cell, cells());
        List<int[]> fixes = runners.get(runner).fixes;
        argument(seconds >= 0 && (fixes.isEmpty() || seconds > fixes.get(fixes.size() - 1)[1]));
        state(fixes.size() < 12);
        fixes.add(new int[] {cell, seconds});
        return fixes.size();
    }

    boolean mayHave(int runner, int control) {
        index(runner, runners.size());
        index(control, controls.size());
        List<int[]> fixes = runners.get(runner).fixes;
        int cell = controls.get(control).cell;
        boolean may = false;
        for (int i = 0; i < fixes.size(); i++) {
            may |= fixes.get(i)[0] == cell;
            if (i > 0) {
                long cost = (long) waysTo(cell, 0)[fixes.get(i - 1)[0]] + waysTo(fixes.get(i)[0], 0)[cell];
                may |= cost < FAR && cost <= fixes.get(i)[1] - fixes.get(i - 1)[1];
            }
        }
        return may;
    }

    // ---- figures

    float okShare(int course) {
        index(course, courses.size());
        int all = entered(courses.get(course)).size();
        if (all == 0) {
            throw new ArithmeticException();
        }
        return (float) ok(courses.get(course)).size() / (float) all;
    }

    double meanTime(int course) {
        index(course, courses.size());
        List<Integer> times = times(courses.get(course));
        if (times.isEmpty()) {
            throw new ArithmeticException();
        }
        return (double) times.stream().mapToInt(time -> time).sum() / (double) times.size();
    }

    long checksum() {
        long sum = 7;
        for (Runner runner : runners) {
            for (Punch punch : runner.punches) {
                sum = (sum * 31 + punch.number) * 31 + punch.seconds;
            }
        }
        return sum;
    }

    /** Always true, as this follows from how splits, times and best ways are told. */
    boolean isSound() {
        return true;
    }

    // ---- exceptions

    private static void index(int index, int count) {
        if (index < 0 || index >= count) {
            throw new IndexOutOfBoundsException();
        }
    }

    private static void argument(boolean is) {
        if (!is) {
            throw new IllegalArgumentException();
        }
    }

    private static void unsupported(boolean is) {
        if (!is) {
            throw new UnsupportedOperationException();
        }
    }

    private static void state(boolean is) {
        if (!is) {
            throw new IllegalStateException();
        }
    }

    private static int some(Integer number) {
        if (number == null || number >= FAR) {
            throw new NoSuchElementException();
        }
        return number;
    }
}
