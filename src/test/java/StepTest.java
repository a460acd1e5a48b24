/** Promise 6: how many steps are done, and when there are none. InstructionTest has what a step does. */
public final class StepTest {
    public static void main(String[] args) {
        Checks checks = new Checks("StepTest");
        checkCounts(checks);
        checkTheLastOneCounts(checks);
        checkWrongInputs(checks);
        checks.finish();
    }

    private static void checkCounts(Checks checks) {
        SegmentDesk desk = Programs.started(0, 100, 0, Programs.JUMP, -2);
        checks.same("step(0)", desk.step(0), 0);
        checks.same("step(1)", desk.step(1), 1);
        checks.same("step(1999)", desk.step(1999), 1999);
        checks.same("step(2000)", desk.step(2000), 2000);
        checks.same("it goes on", desk.look(0), 1);
    }

    private static void checkTheLastOneCounts(Checks checks) {
        lastOne(checks, "END", 2, 2, Programs.CONSTANT, 1, Programs.END);
        lastOne(checks, "RETURN", 2, 2, Programs.CONSTANT, 1, Programs.RETURN);
        lastOne(checks, "BAD", 3, 2, Programs.CONSTANT, 1, Programs.ADD);
        // 3 + 4 bytes and a frame of 8 leave 85 bytes: 21 numbers.
        lastOne(checks, "OVERFLOW", 4, 43, Programs.CONSTANT, 1, Programs.JUMP, -4);
    }

    private static void lastOne(Checks checks, String what, int end, int steps, int... instructions) {
        SegmentDesk desk = Programs.started(0, 100, 0, instructions);
        checks.same(what + ": but the last", desk.step(steps - 1), steps - 1);
        checks.same(what + ": it goes on", desk.look(0), 1);
        checks.same(what + ": the last", desk.step(10), 1);
        checks.same(what + ": it has ended", desk.look(0), end);
        checks.same(what + ": none is left", desk.step(10), 0);
        checks.same(what + ": step(0)", desk.step(0), 0);
        desk.start(0, 0, 100);
        checks.same(what + ": all at once", desk.step(2000), steps);
    }

    private static void checkWrongInputs(Checks checks) {
        SegmentDesk desk = Programs.desk(0, Programs.CONSTANT, 1, Programs.END);
        for (int n : new int[] {-1, 2001, Integer.MIN_VALUE, Integer.MAX_VALUE}) {
            checks.refusesState("no run, step(" + n + ")", () -> desk.step(n));
        }
        desk.start(0, 0, 100);
        for (int n : new int[] {-1, 2001, Integer.MIN_VALUE, Integer.MAX_VALUE}) {
            checks.refusesArgument("step(" + n + ")", () -> desk.step(n));
        }
        checks.looks("nothing was done", desk, 1, 14, 14, 1, 0, 1, 0, 3, 0, 0, 0);
        desk.step(2);
        checks.refusesArgument("step(-1) of a run that is over", () -> desk.step(-1));
        desk.clear(4);
        checks.refusesState("after clear", () -> desk.step(0));
    }
}
