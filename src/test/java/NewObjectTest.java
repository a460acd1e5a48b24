/** Promise 1. */
public final class NewObjectTest {
    public static void main(String[] args) {
        Checks checks = new Checks("NewObjectTest");
        SegmentDesk desk = new SegmentDesk();
        checks.noRun("new", desk);
        for (int segment = 0; segment < 5; segment++) {
            int s = segment;
            checks.same("good(" + s + ")", desk.good(s), 0);
            checks.refusesState("start of an empty segment", () -> desk.start(s, 0, 4000));
        }
        checks.noRun("after refused starts", desk);
        for (int segment = 0; segment < 5; segment++) {
            checks.same("first byte of " + segment, desk.code(segment, (byte) 1), 1);
        }
        checkObjectsAreApart(checks);
        checks.finish();
    }

    private static void checkObjectsAreApart(Checks checks) {
        SegmentDesk one = Programs.started(7, 100, 1, Programs.END);
        SegmentDesk other = new SegmentDesk();
        checks.noRun("beside another one", other);
        checks.same("good(0) beside another one", other.good(0), 0);
        checks.same("local of the other one", one.local(0, 0), 7);
    }
}
