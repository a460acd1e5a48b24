/** Promise 7. The other tests ask look for what they check; here is what holds of look itself. */
public final class LookTest {
    public static void main(String[] args) {
        Checks checks = new Checks("LookTest");
        checkEachFact(checks);
        checkWrongInputs(checks);
        checks.finish();
    }

    private static void checkEachFact(Checks checks) {
        SegmentDesk desk = Programs.desk(2, Programs.CONSTANT, 1, Programs.CONSTANT, 2, Programs.CALL, 1, 0,
                Programs.OUT, Programs.RETURN);
        Programs.procedure(desk, 1, 0, Programs.CONSTANT, 30, Programs.RETURN);
        desk.start(0, 7, 400);
        checks.looks("begun", desk, 1, 28, 28, 1, 0, 1, 0, 3, 0, 0, 0);
        desk.step(1);
        checks.looks("a number", desk, 1, 32, 32, 1, 0, 1, 0, 5, 1, 0, 0);
        desk.step(1);
        checks.looks("two numbers", desk, 1, 36, 36, 1, 0, 1, 0, 7, 2, 0, 0);
        desk.step(1);
        checks.looks("the call took one", desk, 1, 46, 46, 2, 0, 2, 1, 3, 0, 0, 0);
        desk.step(1);
        checks.looks("a number of the called one", desk, 1, 50, 50, 2, 0, 2, 1, 5, 1, 0, 0);
        desk.step(1);
        checks.looks("back", desk, 1, 42, 50, 2, 0, 1, 0, 10, 2, 0, 0);
        desk.step(1);
        checks.looks("out", desk, 1, 38, 50, 2, 0, 1, 0, 11, 1, 0, 1);
        desk.step(1);
        checks.looks("over", desk, 2, 34, 50, 2, 0, 1, 0, 11, 0, 1, 1);
        desk.step(100);
        checks.looks("memory stays as it is", desk, 2, 34, 50, 2, 0, 1, 0, 11, 0, 1, 1);
        desk.clear(3);
        checks.noRun("no run", desk);
    }

    private static void checkWrongInputs(Checks checks) {
        SegmentDesk desk = Programs.desk(0, Programs.END);
        for (int what : new int[] {-1, 11, Integer.MIN_VALUE, Integer.MAX_VALUE}) {
            checks.refusesArgument("no run, look(" + what + ")", () -> desk.look(what));
        }
        desk.start(0, 0, 100);
        for (int what : new int[] {-1, 11, Integer.MIN_VALUE, Integer.MAX_VALUE}) {
            checks.refusesArgument("look(" + what + ")", () -> desk.look(what));
        }
        checks.looks("the run is there still", desk, 1, 12, 12, 1, 0, 1, 0, 3, 0, 0, 0);
    }
}
