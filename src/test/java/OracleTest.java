import java.util.ArrayList;
import java.util.HashMap;
import java.util.List;
import java.util.Map;
import java.util.NoSuchElementException;
import java.util.Random;

/** Compares answers on random lands, relays and runs with slow and simple reckonings of the same. */
public final class OracleTest {
    private static final int FAR = 1 << 28;
    private static final int MOST_TOLD = 30;
    private static final Check CHECK = new Check();

    private final Random random;
    private final ControlWood wood = new ControlWood();
    private final int columns;
    private final int rows;
    private final int cells;
    private final int[] height;
    /** Growth and kind, of the land in row 0 and of the map in row 1. */
    private final int[][] growth;
    private final char[][] kind;

    private OracleTest(int seed, int mostColumns, int mostRows) {
        this(new Random(seed), mostColumns, mostRows, false);
    }

    /** The largest land, with ways that wind, so that cells are reached again and again by better ones. */
    private OracleTest(int seed) {
        this(new Random(seed), 12, 12, true);
    }

    private OracleTest(Random random, int mostColumns, int mostRows, boolean isWinding) {
        this.random = random;
        columns = isWinding ? mostColumns : 3 + random.nextInt(mostColumns - 2);
        rows = isWinding ? mostRows : 3 + random.nextInt(mostRows - 2);
        cells = columns * rows;
        height = new int[cells];
        growth = new int[2][cells];
        kind = new char[2][cells];
        wood.land(columns, rows);
        roughen();
        if (isWinding) {
            wind();
        }
        tell();
    }

    public static void main(String[] args) {
        for (int seed = 0; seed < 60; seed++) {
            new OracleTest(seed, 12, 12).costs();
            new OracleTest(seed, 4, 4).misled();
            new OracleTest(seed, 5, 5).scores();
            new OracleTest(seed, 7, 7).tracks();
            new OracleTest(seed, 4, 4).relays();
        }
        for (int seed = 0; seed < 300; seed++) {
            new OracleTest(seed, 5, 5).results();
        }
        for (int seed = 0; seed < 12; seed++) {
            new OracleTest(seed).costs();
        }
        CHECK.end();
    }

    private void roughen() {
        int rough = 1 + random.nextInt(10);
        for (int cell = 0; cell < cells; cell++) {
            height[cell] = random.nextInt(rough);
            for (int is = 0; is < 2; is++) {
                growth[is][cell] = random.nextInt(rough);
                int lot = random.nextInt(12);
                kind[is][cell] = lot == 0 ? 'w' : lot == 1 ? 'x' : '.';
            }
        }
    }

    private void tell() {
        for (int cell = 0; cell < cells; cell++) {
            wood.cell(cell, growth[0][cell], height[cell], kind[0][cell]);
            wood.show(cell, growth[1][cell], kind[1][cell]);
        }
    }

    private void wind() {
        for (int cell = 0; cell < cells; cell++) {
            int row = cell / columns;
            int gap = row % 4 == 1 ? 0 : columns - 1;
            boolean isWall = row % 2 == 1 && cell % columns != gap;
            height[cell] = isWall ? random.nextInt(10) : 0;
            for (int is = 0; is < 2; is++) {
                growth[is][cell] = isWall ? random.nextInt(10) : random.nextInt(3);
                kind[is][cell] = '.';
            }
        }
    }

    private int step(int from, int to, int is) {
        boolean isBeside = Math.abs(from / columns - to / columns) + Math.abs(from % columns - to % columns) == 1;
        boolean isShut = kind[is][to] == 'w' || is == 1 && kind[is][to] == 'x';
        return !isBeside || isShut ? FAR : 10 + 5 * growth[is][to] + 6 * Math.max(0, height[to] - height[from]);
    }

    private int[][] ways(int is) {
        int[][] ways = new int[cells][cells];
        for (int from = 0; from < cells; from++) {
            for (int to = 0; to < cells; to++) {
                ways[from][to] = from == to ? 0 : step(from, to, is);
            }
        }
        for (int by = 0; by < cells; by++) {
            for (int from = 0; from < cells; from++) {
                for (int to = 0; to < cells; to++) {
                    ways[from][to] = Math.min(ways[from][to], ways[from][by] + ways[by][to]);
                }
            }
        }
        return ways;
    }

    private void costs() {
        for (int is = 0; is < 2; is++) {
            boolean isMap = is == 1;
            int[][] ways = ways(is);
            for (int i = 0; i < 100; i++) {
                int from = random.nextInt(cells);
                int to = random.nextInt(cells);
                dueOrNone("cost(" + from + ", " + to + ", " + isMap + ")", ways[from][to], FAR, () -> wood.cost(from, to, isMap));
            }
        }
        CHECK.due("isSound", true, () -> wood.isSound());
    }

    private void dueOrNone(String call, int due, int none, Check.Call done) {
        if (due >= none) {
            CHECK.fails(NoSuchElementException.class, call, done);
        } else {
            CHECK.due(call, due, done);
        }
    }

    private void misled() {
        int[][] ways = ways(1);
        for (int from = 0; from < cells; from++) {
            for (int to = 0; to < cells; to++) {
                List<int[]> found = new ArrayList<>();
                if (ways[from][to] < FAR) {
                    gather(new int[] {from}, to, ways[from][to], found);
                }
                int due = found.isEmpty() ? FAR : costOf(first(found));
                int a = from;
                int b = to;
                dueOrNone("misled(" + a + ", " + b + ")", due, FAR, () -> wood.misled(a, b));
            }
        }
    }

    private void gather(int[] way, int to, int left, List<int[]> found) {
        int last = way[way.length - 1];
        if (last == to && left == 0) {
            found.add(way);
            return;
        }
        for (int next = 0; next < cells; next++) {
            int cost = step(last, next, 1);
            if (cost <= left) {
                int[] longer = java.util.Arrays.copyOf(way, way.length + 1);
                longer[way.length] = next;
                gather(longer, to, left - cost, found);
            }
        }
    }

    private static int[] first(List<int[]> found) {
        int[] first = found.get(0);
        for (int[] one : found) {
            first = java.util.Arrays.compare(one, first) < 0 ? one : first;
        }
        return first;
    }

    private int costOf(int[] way) {
        int sum = 0;
        for (int i = 1; i < way.length; i++) {
            sum = Math.min(FAR, sum + step(way[i - 1], way[i], 0));
        }
        return sum;
    }

    /** Controls in random cells that are no water when they are told. */
    private List<int[]> controls(int most) {
        List<int[]> all = new ArrayList<>();
        for (int i = 0; i < most; i++) {
            int cell = random.nextInt(cells);
            if (kind[0][cell] != 'w') {
                int[] one = {cell, random.nextInt(100)};
                wood.control(cell, random.nextInt(4), one[1]);
                all.add(one);
            }
        }
        return all;
    }

    private void scores() {
        List<int[]> all = controls(6);
        int flooded = random.nextInt(cells);
        kind[0][flooded] = 'w';
        wood.cell(flooded, growth[0][flooded], height[flooded], 'w');
        int[][] ways = ways(0);
        for (int i = 0; i < 12; i++) {
            int start = random.nextInt(cells);
            int limit = random.nextInt(i < 6 ? 100 : 400);
            int pace = 1 + random.nextInt(i % 2 == 0 ? 300 : 2000);
            int due = most(all, new boolean[all.size()], start, start, limit, pace, ways);
            CHECK.due("score(" + start + ", " + limit + ", " + pace + ")", due, () -> wood.score(start, limit, pace));
        }
    }

    private int most(List<int[]> all, boolean[] had, int at, int start, int left, int pace, int[][] ways) {
        int most = 0;
        for (int i = 0; i < had.length; i++) {
            int cell = all.get(i)[0];
            if (had[i] || ways[at][cell] >= FAR || ways[at][cell] * pace / 1000 > left) {
                continue;
            }
            int rest = left - ways[at][cell] * pace / 1000;
            had[i] = true;
            boolean isBack = ways[cell][start] < FAR && ways[cell][start] * pace / 1000 <= rest;
            int onward = most(all, had, cell, start, rest, pace, ways);
            had[i] = false;
            // Some tours only come back by a further control, since each way is cut.
            most = Math.max(most, isBack || onward > 0 ? all.get(i)[1] + onward : 0);
        }
        return most;
    }

    private void tracks() {
        List<int[]> all = controls(6);
        int[][] ways = ways(0);
        wood.course(0);
        for (int i = 0; i < 6; i++) {
            int runner = wood.runner(0, 0);
            int[] at = new int[random.nextInt(13)];
            int[] seconds = new int[at.length];
            for (int k = 0; k < at.length; k++) {
                at[k] = random.nextInt(cells);
                seconds[k] = (k == 0 ? 0 : seconds[k - 1]) + 1 + random.nextInt(150);
                wood.fix(runner, at[k], seconds[k]);
            }
            for (int k = 0; k < all.size(); k++) {
                int control = k;
                boolean may = mayHave(at, seconds, all.get(k)[0], ways);
                CHECK.due("mayHave(" + runner + ", " + k + ")", may, () -> wood.mayHave(runner, control));
            }
        }
    }

    private static boolean mayHave(int[] at, int[] seconds, int cell, int[][] ways) {
        boolean may = false;
        for (int i = 0; i < at.length; i++) {
            may |= at[i] == cell;
            may |= i > 0 && ways[at[i - 1]][cell] + ways[cell][at[i]] <= seconds[i] - seconds[i - 1];
        }
        return may;
    }

    private void relays() {
        List<int[]> all = controls(9);
        if (all.size() < 2) {
            return;
        }
        Track course = track(all, 1 + random.nextInt(5));
        int teams = 1 + random.nextInt(4);
        int[] runs = new int[teams];
        int sum = 0;
        for (int team = 0; team < teams; team++) {
            runs[team] = team > 0 && random.nextInt(8) > 0 ? runs[0] : 1 + random.nextInt(3);
            wood.team(0, runs[team]);
            sum += runs[team];
        }
        int bits = sum * course.forks();
        if (bits > 12) {
            CHECK.fails(UnsupportedOperationException.class, "fairWays", () -> wood.fairWays());
            return;
        }
        int fair = 0;
        // Not all ways can be told to one object, of which nothing is promised after 512 calls.
        int ways = 1 << bits;
        int gap = 1 + ways / MOST_TOLD;
        for (int way = 0; way < ways; way++) {
            boolean isTold = way % gap == 0;
            boolean isFair = deal(runs, course, way, isTold);
            fair += isFair ? 1 : 0;
            if (isTold) {
                CHECK.due("isFair, way " + way, isFair, () -> wood.isFair());
            }
        }
        int due = fair;
        CHECK.due("fairWays", due, () -> wood.fairWays());
    }

    /** Gives the bits of a way to all runs, told to the object or not, and says whether that is fair. */
    private boolean deal(int[] runs, Track course, int way, boolean isTold) {
        List<Map<String, Integer>> legs = new ArrayList<>();
        boolean isFair = true;
        int left = way;
        for (int team = 0; team < runs.length; team++) {
            Map<String, Integer> own = new HashMap<>();
            for (int run = 0; run < runs[team]; run++) {
                int branches = left & (1 << course.forks()) - 1;
                left >>= course.forks();
                if (isTold) {
                    wood.runs(team, run, branches);
                }
                for (int leg = 0; leg <= course.own.size(); leg++) {
                    own.merge(course.ends(leg, branches), 1, Integer::sum);
                }
            }
            legs.add(own);
            isFair &= runs[team] == runs[0] && own.equals(legs.get(0));
        }
        return isFair;
    }

    /** Course 0, told to the object as well. */
    private Track track(List<int[]> all, int places) {
        Track track = new Track(all, random.nextInt(cells));
        wood.course(track.start);
        for (int place = 0; place < places; place++) {
            int control = random.nextInt(all.size());
            wood.add(0, control);
            track.own.add(control);
            int other = random.nextInt(all.size());
            boolean isFork = other != control && random.nextBoolean();
            track.other.add(isFork ? other : -1);
            if (isFork) {
                wood.fork(0, place, other);
            }
        }
        return track;
    }

    private static final class Track {
        final List<int[]> all;
        final int start;
        final List<Integer> own = new ArrayList<>();
        final List<Integer> other = new ArrayList<>();

        Track(List<int[]> all, int start) {
            this.all = all;
            this.start = start;
        }

        int forks() {
            return (int) other.stream().filter(control -> control >= 0).count();
        }

        List<Integer> controls(int branches) {
            List<Integer> due = new ArrayList<>();
            int left = branches;
            for (int place = 0; place < own.size(); place++) {
                boolean isFork = other.get(place) >= 0;
                due.add(isFork && left % 2 == 1 ? other.get(place) : own.get(place));
                left = isFork ? left / 2 : left;
            }
            return due;
        }

        String ends(int leg, int branches) {
            List<Integer> due = controls(branches);
            int from = leg == 0 ? start : all.get(due.get(leg - 1))[0];
            int to = leg == due.size() ? start : all.get(due.get(leg))[0];
            return from + " to " + to;
        }
    }

    /** A run as it was told, and what follows from it. */
    private static final class Run {
        int branches;
        int start;
        int counts;
        int finish;
        final List<int[]> punches = new ArrayList<>();
        boolean isOk;
        int time;
        Integer[] splits;
    }

    private void results() {
        List<int[]> all = controls(5);
        if (all.size() < 2) {
            return;
        }
        Track course = track(all, random.nextInt(5));
        boolean[] voids = new boolean[course.own.size() + 1];
        for (int leg = 0; leg < voids.length; leg++) {
            voids[leg] = random.nextInt(4) == 0;
            wood.voided(0, leg, voids[leg]);
        }
        int[] stolen = new int[all.size()];
        for (int control = 0; control < stolen.length; control++) {
            stolen[control] = random.nextInt(3) == 0 ? random.nextInt(120) : -1;
            wood.stolen(control, stolen[control]);
        }
        List<Run> runs = new ArrayList<>();
        for (int i = 0; i < 12; i++) {
            Run run = told(i, course, all.size());
            settle(run, course, voids, stolen);
            runs.add(run);
        }
        for (int i = 0; i < 12; i++) {
            compare(i, runs, course);
        }
        CHECK.due("isSound", true, () -> wood.isSound());
    }

    private Run told(int number, Track course, int controls) {
        Run run = new Run();
        wood.runner(number % 10, 0);
        run.branches = random.nextInt(1 << course.forks());
        wood.branches(number, run.branches);
        run.start = random.nextInt(40);
        wood.start(number, run.start);
        int at = run.start;
        for (int control : course.controls(run.branches)) {
            while (random.nextInt(4) == 0) {
                at += random.nextInt(10);
                punch(number, run, random.nextInt(controls), at);
            }
            if (random.nextInt(6) > 0) {
                at += random.nextInt(30);
                punch(number, run, control, at);
            }
        }
        run.finish = at + random.nextInt(30);
        wood.finish(number, run.finish);
        run.counts = random.nextInt(5) == 0 ? random.nextInt(99) : run.start;
        wood.rule(number, run.counts);
        return run;
    }

    private void punch(int number, Run run, int control, int at) {
        if (run.punches.size() < 20) {
            wood.punch(number, control, at);
            run.punches.add(new int[] {control, at});
        }
    }

    private static void settle(Run run, Track course, boolean[] voids, int[] stolen) {
        List<Integer> due = course.controls(run.branches);
        Integer[] at = new Integer[due.size() + 2];
        at[0] = run.start;
        at[at.length - 1] = run.finish;
        List<int[]> left = new ArrayList<>(run.punches);
        for (int i = 0; i < due.size(); i++) {
            for (int k = 0; k < left.size() && at[i + 1] == null; k++) {
                if (left.get(k)[0] == due.get(i)) {
                    at[i + 1] = left.get(k)[1];
                    left = left.subList(k + 1, left.size());
                }
            }
        }
        run.isOk = true;
        run.splits = new Integer[at.length - 1];
        run.time = run.finish - run.counts;
        for (int i = 1; i < at.length; i++) {
            if (at[i] == null) {
                int next = i;
                while (at[next] == null) {
                    next++;
                }
                int from = stolen[due.get(i - 1)];
                run.isOk &= from >= 0 && from <= at[next];
                continue;
            }
            int ahead = i - 1;
            while (at[ahead] == null) {
                ahead--;
            }
            run.splits[i - 1] = at[i] - at[ahead];
            run.time -= voids[i - 1] && ahead == i - 1 ? at[i] - at[ahead] : 0;
        }
    }

    private void compare(int number, List<Run> runs, Track course) {
        Run run = runs.get(number);
        CHECK.due("state of " + number, run.isOk ? 'o' : 'm', () -> wood.state(number));
        if (!run.isOk) {
            return;
        }
        CHECK.due("time of " + number, run.time, () -> wood.time(number));
        int better = (int) runs.stream().filter(one -> one.isOk && one.time < run.time).count();
        CHECK.due("place of " + number, 1 + better, () -> wood.place(number));
        int[] times = runs.stream().filter(one -> one.isOk).mapToInt(one -> one.time).sorted().limit(3).toArray();
        int mean = java.util.Arrays.stream(times).sum() / times.length;
        if (run.time != 0) {
            CHECK.due("points of " + number, 1000 * mean / run.time, () -> wood.points(number));
        }
        List<Integer> rates = new ArrayList<>();
        for (int leg = 0; leg < run.splits.length; leg++) {
            Integer reference = reference(run, runs, course, leg);
            int one = leg;
            String name = " of " + number + " on leg " + leg;
            dueOrNull("split" + name, run.splits[leg], () -> wood.split(number, one));
            dueOrNull("reference" + name, reference, () -> wood.reference(number, one));
            if (run.splits[leg] != null && reference > 0) {
                rates.add(1000 * run.splits[leg] / reference);
            }
        }
        rates.sort(null);
        Integer pace = rates.isEmpty() ? null : rates.get((rates.size() + 1) / 2 - 1);
        dueOrNull("pace of " + number, pace, () -> wood.pace(number));
        for (int leg = 0; leg < run.splits.length; leg++) {
            int one = leg;
            Integer loss = pace == null || run.splits[leg] == null ? null
                    : Math.max(0, run.splits[leg] - pace * reference(run, runs, course, leg) / 1000);
            dueOrNull("loss of " + number + " on leg " + leg, loss, () -> wood.loss(number, one));
        }
    }

    private static Integer reference(Run run, List<Run> runs, Track course, int leg) {
        List<Integer> splits = new ArrayList<>();
        for (Run one : runs) {
            boolean isAlike = course.ends(leg, one.branches).equals(course.ends(leg, run.branches));
            if (one.isOk && one.splits[leg] != null && isAlike) {
                splits.add(one.splits[leg]);
            }
        }
        if (splits.isEmpty()) {
            return null;
        }
        splits.sort(null);
        int half = splits.size() / 2 + splits.size() % 2;
        return splits.subList(0, half).stream().mapToInt(split -> split).sum() / half;
    }

    private static void dueOrNull(String call, Integer due, Check.Call done) {
        if (due == null) {
            CHECK.fails(NoSuchElementException.class, call, done);
        } else {
            CHECK.due(call, due, done);
        }
    }
}
