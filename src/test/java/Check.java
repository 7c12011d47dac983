/** Counts the calls whose answers are not the due ones. */
final class Check {
    interface Call {
        Object answer();
    }

    private int wrong;
    private int checks;

    void due(String call, Object want, Call done) {
        checks++;
        String got = told(done);
        String due = want.getClass().getSimpleName() + " " + want;
        if (!got.equals(due)) {
            report(call, got, due);
        }
    }

    /** The exception must be just this one, and none of those below it that the machine throws. */
    void fails(Class<? extends RuntimeException> want, String call, Call done) {
        checks++;
        String got = told(done);
        if (!got.equals("throws " + want.getName())) {
            report(call, got, "throws " + want.getName());
        }
    }

    void holds(String what, boolean is) {
        checks++;
        if (!is) {
            report(what, "false", "true");
        }
    }

    static String told(Call done) {
        try {
            Object answer = done.answer();
            return answer.getClass().getSimpleName() + " " + answer;
        } catch (RuntimeException e) {
            return "throws " + e.getClass().getName();
        }
    }

    void end() {
        System.out.println(checks + " checks, " + wrong + " wrong");
        if (wrong != 0) {
            System.exit(1);
        }
    }

    private void report(String call, String got, String due) {
        wrong++;
        System.out.println(call + " answered " + got + ", due is " + due);
    }
}
