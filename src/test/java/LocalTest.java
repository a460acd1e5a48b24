/** Promise 10. */
public final class LocalTest {
    public static void main(String[] args) {
        Checks checks = new Checks("LocalTest");
        checkFrames(checks);
        checkWhatIsNotThere(checks);
        checkNewFramesAreClean(checks);
        checkDeepestRun(checks);
        checks.finish();
    }

    private static SegmentDesk calling() {
        SegmentDesk desk = Programs.desk(3, Programs.CONSTANT, 6, Programs.SET, 2, Programs.CONSTANT, 8,
                Programs.GET, 2, Programs.CALL, 1, 0, Programs.GET, 2, Programs.CALL, 1, 0, Programs.END);
        Programs.procedure(desk, 1, 2, Programs.GET, 0, Programs.CONSTANT, 1, Programs.ADD, Programs.SET, 1,
                Programs.GET, 1, Programs.RETURN);
        desk.start(0, 5, 400);
        return desk;
    }

    private static void row(Checks checks, SegmentDesk desk, int frame, int... due) {
        for (int n = 0; n < due.length; n++) {
            checks.same("local(" + frame + ", " + n + ")", desk.local(frame, n), due[n]);
        }
    }

    private static void checkFrames(Checks checks) {
        SegmentDesk desk = calling();
        row(checks, desk, 0, 5, 0, 0, 0);
        desk.step(2);
        row(checks, desk, 0, 5, 0, 6, 0);
        desk.step(3);
        row(checks, desk, 0, 5, 0, 6, 0);
        row(checks, desk, 1, 6, 0, 0);
        desk.step(4);
        row(checks, desk, 0, 5, 0, 6, 0);
        row(checks, desk, 1, 6, 7, 0);
        desk.step(2);
        row(checks, desk, 1, 0, 0, 0);
        desk.step(2000);
        row(checks, desk, 0, 5, 0, 6, 0);
    }

    private static void checkWhatIsNotThere(Checks checks) {
        SegmentDesk desk = calling();
        int[] wrong = {-1, 3, 500, 1000, Integer.MIN_VALUE, Integer.MAX_VALUE};
        for (int i : wrong) {
            checks.same("local(" + i + ", 0)", desk.local(i, 0), 0);
            checks.same("local(0, " + i + ")", desk.local(0, i), 0);
            checks.same("local(" + i + ", " + i + ")", desk.local(i, i), 0);
        }
        desk.step(3);
        checks.same("a number on the stack is no local", desk.local(0, 3), 0);
        desk.clear(4);
        checks.same("no run", desk.local(0, 0), 0);
        checks.same("no run, no frame", desk.local(-1, -1), 0);
    }

    /** The second call's frame stands where the first one's stood. */
    private static void checkNewFramesAreClean(Checks checks) {
        SegmentDesk desk = calling();
        desk.step(5 + 6 + 2);
        row(checks, desk, 1, 6, 0, 0);
    }

    /** As many frames as a limit can hold: 8 bytes of code, and 499 frames of 8. */
    private static void checkDeepestRun(Checks checks) {
        SegmentDesk bare = Programs.started(0, 4000, 0, Programs.CONSTANT, 1, Programs.CALL, 0, 0);
        bare.step(2000);
        checks.same("bare frames: OVERFLOW", bare.look(0), 4);
        checks.same("bare frames", bare.look(5), 499);
        checks.same("bare frames hold", bare.look(1), 4000);
        SegmentDesk full = Programs.started(0, 4000, 6, Programs.GET, 0, Programs.CONSTANT, 1, Programs.ADD,
                Programs.CALL, 0, 0);
        // Run after run, none has less room than the first one had.
        for (int run = 0; run < 40; run++) {
            full.start(0, 0, 4000);
            full.step(2000);
            checks.same("full frames of run " + run, full.look(5), (4000 - 11) / 32);
        }
        for (int i = 0; i < full.look(5); i++) {
            checks.same("argument of frame " + i, full.local(i, 0), i);
        }
    }
}
