/** Counts what a test finds wrong, prints it, and ends the test with exit code 1 if there was something. */
final class Checks {
    private final String test;
    private int done;
    private int wrong;

    Checks(String test) {
        this.test = test;
    }

    void same(String what, long got, long due) {
        done++;
        if (got != due) {
            wrong++;
            System.out.println(test + ": " + what + " answered " + got + ", due is " + due);
        }
    }

    void sameText(String what, String got, String due) {
        done++;
        if (!got.equals(due)) {
            wrong++;
            System.out.println(test + ": " + what + " answered <" + got + ">, due is <" + due + ">");
        }
    }

    /** The kind must be the exact one: no promise names a subclass. */
    void throwsA(Class<? extends RuntimeException> kind, String what, Runnable call) {
        done++;
        Class<?> got = null;
        try {
            call.run();
        } catch (RuntimeException e) {
            got = e.getClass();
        }
        if (got != kind) {
            wrong++;
            String answer = got == null ? "threw nothing" : "threw " + got.getSimpleName();
            System.out.println(test + ": " + what + " " + answer + ", due is " + kind.getSimpleName());
        }
    }

    void refusesArgument(String what, Runnable call) {
        throwsA(IllegalArgumentException.class, what, call);
    }

    void refusesState(String what, Runnable call) {
        throwsA(IllegalStateException.class, what, call);
    }

    void refusesIndex(String what, Runnable call) {
        throwsA(IndexOutOfBoundsException.class, what, call);
    }

    /** All of look from the first fact on. */
    void looks(String what, SegmentDesk desk, int... due) {
        for (int fact = 0; fact < due.length; fact++) {
            same(what + ": look(" + fact + ")", desk.look(fact), due[fact]);
        }
    }

    void states(String what, SegmentDesk desk, int... due) {
        for (int segment = 0; segment < due.length; segment++) {
            same(what + ": state(" + segment + ")", desk.state(segment), due[segment]);
        }
    }

    void outs(String what, SegmentDesk desk, int... due) {
        same(what + ": look(10)", desk.look(10), due.length);
        for (int i = 0; i < due.length; i++) {
            same(what + ": out(" + i + ")", desk.out(i), due[i]);
        }
        refusesIndex(what + ": out(" + due.length + ")", () -> desk.out(due.length));
    }

    void noRun(String what, SegmentDesk desk) {
        looks(what, desk, 0, 0, 0, 0, 0, 0, -1, -1, 0, 0, 0);
        states(what, desk, 0, 0, 0, 0, 0);
        outs(what, desk);
        same(what + ": local(0, 0)", desk.local(0, 0), 0);
        refusesState(what + ": step(1)", () -> desk.step(1));
    }

    void finish() {
        System.out.println(test + ": " + done + " checks, " + wrong + " wrong");
        if (wrong != 0) {
            System.exit(1);
        }
    }
}
