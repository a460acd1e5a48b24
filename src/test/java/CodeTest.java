/** Promise 2. */
public final class CodeTest {
    public static void main(String[] args) {
        Checks checks = new Checks("CodeTest");
        checkCounts(checks);
        checkWrongSegments(checks);
        checkItEndsTheRun(checks);
        checks.finish();
    }

    private static void checkCounts(Checks checks) {
        SegmentDesk desk = new SegmentDesk();
        for (int i = 1; i <= 80; i++) {
            checks.same("byte " + i + " of 3", desk.code(3, (byte) -i), i);
        }
        checks.refusesIndex("byte 81", () -> desk.code(3, (byte) 0));
        checks.refusesIndex("byte 81 again", () -> desk.code(3, (byte) 0));
        checks.same("another segment has its own count", desk.code(4, (byte) 127), 1);
        desk.clear(3);
        checks.same("a cleared one begins anew", desk.code(3, (byte) -128), 1);
    }

    private static void checkWrongSegments(Checks checks) {
        SegmentDesk desk = Programs.started(0, 100, 0, Programs.JUMP, -2);
        for (int segment : new int[] {-1, 5, 6, 256, Integer.MIN_VALUE, Integer.MAX_VALUE}) {
            checks.refusesArgument("code of " + segment, () -> desk.code(segment, (byte) 0));
        }
        checks.same("the run is there still", desk.look(0), 1);
    }

    private static void checkItEndsTheRun(Checks checks) {
        SegmentDesk desk = Programs.started(3, 400, 1, Programs.GET, 0, Programs.OUT, Programs.GET, 0, Programs.RETURN);
        Programs.padTo(desk, 1, 80);
        desk.start(0, 3, 400);
        desk.step(5);
        checks.refusesIndex("a full segment", () -> desk.code(1, (byte) 0));
        checks.looks("a refused byte leaves the run", desk, 2, 21, 25, 1, 0, 1, 0, 8, 0, 3, 1);
        checks.same("a byte in a segment that the run has not", desk.code(4, (byte) 0), 1);
        checks.noRun("after code", desk);
    }
}
