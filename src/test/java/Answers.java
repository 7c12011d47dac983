/** All that can be asked of an object without changing it, as one text. */
final class Answers {
    private Answers() {
    }

    static String of(ControlWood w) {
        StringBuilder all = new StringBuilder();
        int cells = ofLand(w, all);
        ofCourses(w, all, cells);
        ofRunners(w, all);
        put(all, () -> w.isFair());
        put(all, () -> w.fairWays());
        put(all, () -> w.score(0, 400, 1000));
        put(all, () -> w.checksum());
        put(all, () -> w.isSound());
        return all.toString();
    }

    private static void put(StringBuilder all, Check.Call call) {
        all.append(Check.told(call)).append('\n');
    }

    private static boolean isThere(Check.Call call) {
        return !Check.told(call).equals("throws java.lang.IndexOutOfBoundsException");
    }

    private static int ofLand(ControlWood w, StringBuilder all) {
        int cells = 0;
        for (int i = 0; i < 144; i++) {
            int cell = i;
            if (isThere(() -> w.cost(cell, cell, true))) {
                cells++;
                // Steps and longer ways tell growths, heights and kinds of land and map.
                for (int next = cell - 12; next <= cell + 12; next++) {
                    int to = next;
                    put(all, () -> w.cost(cell, to, true));
                    put(all, () -> w.cost(cell, to, false));
                }
                put(all, () -> w.misled(0, cell));
            }
        }
        return cells;
    }

    private static void ofCourses(ControlWood w, StringBuilder all, int cells) {
        for (int i = 0; i < 13; i++) {
            int one = i;
            for (int k = 0; k < 13; k++) {
                int other = k;
                put(all, () -> w.areNear(one, other));
            }
        }
        for (int i = 0; i < 7; i++) {
            int course = i;
            put(all, () -> w.isLawful(course));
            put(all, () -> w.lengthOf(course));
            put(all, () -> w.okShare(course));
            put(all, () -> w.meanTime(course));
        }
    }

    private static void ofRunners(ControlWood w, StringBuilder all) {
        for (int i = 0; i < 13; i++) {
            int runner = i;
            if (!isThere(() -> w.state(runner))) {
                continue;
            }
            put(all, () -> w.state(runner));
            put(all, () -> w.startOf(runner));
            put(all, () -> w.time(runner));
            put(all, () -> w.place(runner));
            put(all, () -> w.pace(runner));
            put(all, () -> w.points(runner));
            for (int k = 0; k < 12; k++) {
                int number = k;
                put(all, () -> w.split(runner, number));
                put(all, () -> w.reference(runner, number));
                put(all, () -> w.loss(runner, number));
                put(all, () -> w.mayHave(runner, number));
            }
        }
    }
}
