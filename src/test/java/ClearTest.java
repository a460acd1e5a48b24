/** Promise 3. */
public final class ClearTest {
    public static void main(String[] args) {
        Checks checks = new Checks("ClearTest");
        checkWhatIsCleared(checks);
        checkWrongSegments(checks);
        checks.finish();
    }

    private static void checkWhatIsCleared(Checks checks) {
        SegmentDesk desk = Programs.desk(1, Programs.END);
        Programs.procedure(desk, 1, 0, Programs.END);
        desk.start(0, 9, 100);
        desk.clear(4);
        checks.noRun("after clear of an empty one", desk);
        desk.start(0, 9, 100);
        desk.clear(1);
        checks.noRun("after clear", desk);
        checks.same("the cleared one", desk.good(1), 0);
        checks.same("the other one", desk.good(0), 1);
        checks.refusesState("start of the cleared one", () -> desk.start(1, 0, 100));
        checks.same("its first byte", desk.code(1, (byte) 1), 1);
        checks.same("old bytes do not come back", desk.good(1), 0);
        checks.same("its second byte", desk.code(1, (byte) 2), 2);
        checks.same("old bytes do not come back behind it", desk.good(1), 0);
    }

    private static void checkWrongSegments(Checks checks) {
        SegmentDesk desk = Programs.started(9, 100, 1, Programs.JUMP, -2);
        for (int segment : new int[] {-1, 5, Integer.MIN_VALUE, Integer.MAX_VALUE}) {
            checks.refusesArgument("clear of " + segment, () -> desk.clear(segment));
        }
        checks.looks("the run is there still", desk, 1, 17, 17, 1, 0, 1, 0, 3);
    }
}
