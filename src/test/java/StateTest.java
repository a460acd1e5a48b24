/** Promise 8. */
public final class StateTest {
    public static void main(String[] args) {
        Checks checks = new Checks("StateTest");
        checkResidentAndActive(checks);
        checkRecursionStaysActive(checks);
        checkWrongInputs(checks);
        checks.finish();
    }

    private static void checkResidentAndActive(Checks checks) {
        SegmentDesk desk = Programs.desk(0, Programs.CONSTANT, 1, Programs.CALL, 4, 0, Programs.RETURN);
        Programs.procedure(desk, 4, 1, Programs.GET, 0, Programs.RETURN);
        checks.states("no run yet", desk, 0, 0, 0, 0, 0);
        desk.start(0, 0, 400);
        checks.states("begun", desk, 3, 0, 0, 0, 0);
        desk.step(2);
        checks.states("called", desk, 3, 0, 0, 0, 3);
        desk.step(2);
        checks.states("back", desk, 3, 0, 0, 0, 1);
        desk.step(1);
        checks.states("over", desk, 3, 0, 0, 0, 1);
        desk.clear(3);
        checks.states("no run", desk, 0, 0, 0, 0, 0);
    }

    /** A segment is active as long as one of its frames is there. */
    private static void checkRecursionStaysActive(Checks checks) {
        SegmentDesk desk = Programs.desk(0, Programs.CONSTANT, 2, Programs.CALL, 1, 0, Programs.END);
        Programs.procedure(desk, 1, 1, Programs.GET, 0, Programs.JUMP_IF_ZERO, 8, Programs.GET, 0,
                Programs.CONSTANT, 1, Programs.SUBTRACT, Programs.CALL, 1, 0, Programs.GET, 0, Programs.RETURN);
        desk.start(0, 0, 400);
        desk.step(2 + 6 + 6 + 2);
        checks.same("four frames", desk.look(5), 4);
        for (int frames = 3; frames >= 2; frames--) {
            desk.step(2);
            checks.same("a frame went", desk.look(5), frames);
            checks.states("others are there", desk, 3, 3);
        }
        desk.step(2);
        checks.states("none is there", desk, 3, 1);
        checks.same("loads", desk.look(3), 2);
    }

    private static void checkWrongInputs(Checks checks) {
        SegmentDesk desk = Programs.desk(0, Programs.END);
        for (int segment : new int[] {-1, 5, Integer.MIN_VALUE, Integer.MAX_VALUE}) {
            checks.refusesArgument("no run, state(" + segment + ")", () -> desk.state(segment));
        }
        desk.start(0, 0, 100);
        for (int segment : new int[] {-1, 5, Integer.MIN_VALUE, Integer.MAX_VALUE}) {
            checks.refusesArgument("state(" + segment + ")", () -> desk.state(segment));
        }
        checks.same("the run is there still", desk.look(0), 1);
    }
}
