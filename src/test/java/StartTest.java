/** Promise 5. */
public final class StartTest {
    public static void main(String[] args) {
        Checks checks = new Checks("StartTest");
        checkABeginning(checks);
        checkTheLimits(checks);
        checkTheCallMayEndIt(checks);
        checkWrongInputs(checks);
        checkInPlaceOfAnother(checks);
        checks.finish();
    }

    private static void checkABeginning(Checks checks) {
        SegmentDesk desk = new SegmentDesk();
        Programs.append(desk, 4, 2, 5, 3, 6, Programs.END, 2, Programs.GET, 0, Programs.OUT);
        desk.start(4, -77, 4000);
        checks.looks("procedure 0, not the first in the row", desk, 1, 25, 25, 1, 0, 1, 4, 6, 0, 0, 0);
        checks.states("begun", desk, 0, 0, 0, 0, 3);
        checks.same("local 0", desk.local(0, 0), -77);
        checks.same("local 1", desk.local(0, 1), 0);
        SegmentDesk noLocals = Programs.started(5, 100, 0, Programs.END);
        checks.same("without locals", noLocals.local(0, 0), 0);
        checks.same("without locals it holds", noLocals.look(1), 12);
    }

    private static void checkTheLimits(Checks checks) {
        SegmentDesk desk = Programs.desk(6, Programs.END);
        desk.start(0, 1, 36);
        checks.looks("all of the limit is room", desk, 1, 36, 36, 1, 0, 1, 0, 3, 0, 0, 0);
        desk.start(0, 1, 35);
        checks.looks("a byte too few", desk, 4, 4, 4, 1, 0, 0, -1, -1, 0, 0, 0);
        checks.states("the segment found room, the frame did not", desk, 1, 0, 0, 0, 0);
        desk.start(0, 1, 4);
        checks.looks("room for the segment alone", desk, 4, 4, 4, 1, 0, 0, -1, -1, 0, 0, 0);
        desk.start(0, 1, 3);
        checks.looks("no room for the segment", desk, 4, 0, 0, 0, 0, 0, -1, -1, 0, 0, 0);
        checks.states("no room for the segment", desk, 0, 0, 0, 0, 0);
        desk.start(0, 1, 0);
        checks.same("limit 0", desk.look(0), 4);
        checks.same("no step is left", desk.step(2000), 0);
        desk.start(0, 1, 4000);
        checks.same("limit 4000", desk.look(0), 1);
    }

    private static void checkTheCallMayEndIt(Checks checks) {
        for (int locals : new int[] {7, 127, -1, -128}) {
            SegmentDesk desk = Programs.started(1, 4000, locals, Programs.END);
            checks.looks(locals + " locals", desk, 3, 0, 0, 0, 0, 0, -1, -1, 0, 0, 0);
            checks.states(locals + " locals", desk, 0, 0, 0, 0, 0);
            checks.same(locals + " locals: no step is left", desk.step(1), 0);
        }
        SegmentDesk desk = Programs.started(1, 0, 7, Programs.END);
        checks.same("BAD where no room would be found either", desk.look(0), 3);
    }

    private static void checkWrongInputs(Checks checks) {
        SegmentDesk desk = Programs.started(1, 100, 1, Programs.GET, 0, Programs.JUMP, -4);
        desk.step(1);
        for (int segment : new int[] {-1, 5, Integer.MIN_VALUE, Integer.MAX_VALUE}) {
            checks.refusesArgument("start of " + segment, () -> desk.start(segment, 0, 100));
        }
        for (int limit : new int[] {-1, 4001, Integer.MIN_VALUE, Integer.MAX_VALUE}) {
            checks.refusesArgument("limit " + limit, () -> desk.start(0, 0, limit));
            checks.refusesArgument("limit " + limit + " of one not GOOD", () -> desk.start(1, 0, limit));
        }
        checks.refusesState("start of one not GOOD", () -> desk.start(1, 0, 100));
        checks.looks("the run is there still", desk, 1, 23, 23, 1, 0, 1, 0, 5, 1, 0, 0);
    }

    private static void checkInPlaceOfAnother(Checks checks) {
        SegmentDesk desk = Programs.desk(1, Programs.GET, 0, Programs.OUT, Programs.GET, 0, Programs.RETURN);
        Programs.procedure(desk, 1, 1, Programs.CONSTANT, 4, Programs.CALL, 0, 0, Programs.RETURN);
        desk.start(1, 8, 200);
        desk.step(100);
        checks.looks("the first run", desk, 2, 30, 46, 2, 0, 1, 1, 8, 0, 4, 1);
        desk.start(0, 6, 200);
        checks.looks("the second run", desk, 1, 21, 21, 1, 0, 1, 0, 3, 0, 0, 0);
        checks.states("the second run", desk, 3, 0, 0, 0, 0);
        checks.outs("the second run", desk);
        checks.same("the argument", desk.local(0, 0), 6);
    }
}
