/** Promise 9. */
public final class OutTest {
    public static void main(String[] args) {
        Checks checks = new Checks("OutTest");
        checkOrder(checks);
        checkFullRow(checks);
        checkWrongInputs(checks);
        checks.finish();
    }

    private static void checkOrder(Checks checks) {
        SegmentDesk desk = Programs.started(Integer.MIN_VALUE, 100, 1, Programs.GET, 0, Programs.OUT,
                Programs.CONSTANT, 5, Programs.CONSTANT, 6, Programs.OUT, Programs.OUT, Programs.END);
        checks.outs("nothing yet", desk);
        desk.step(2);
        checks.outs("one", desk, Integer.MIN_VALUE);
        desk.step(100);
        checks.outs("all, the topmost first", desk, Integer.MIN_VALUE, 6, 5);
    }

    private static void checkFullRow(Checks checks) {
        SegmentDesk desk = Programs.started(0, 100, 1, Programs.GET, 0, Programs.OUT, Programs.GET, 0,
                Programs.CONSTANT, 1, Programs.ADD, Programs.SET, 0, Programs.JUMP, -12);
        desk.step(2000);
        int[] due = new int[40];
        for (int i = 0; i < due.length; i++) {
            due[i] = i;
        }
        checks.outs("40", desk, due);
        checks.same("a 41st is BAD", desk.look(0), 3);
    }

    private static void checkWrongInputs(Checks checks) {
        SegmentDesk desk = Programs.started(4, 100, 1, Programs.GET, 0, Programs.OUT, Programs.END);
        desk.step(3);
        for (int i : new int[] {-1, 1, 39, 40, Integer.MIN_VALUE, Integer.MAX_VALUE}) {
            checks.refusesIndex("out(" + i + ")", () -> desk.out(i));
        }
        checks.outs("the run is there still", desk, 4);
        desk.start(0, 4, 100);
        checks.refusesIndex("a new run has none", () -> desk.out(0));
        desk.step(3);
        desk.clear(1);
        checks.refusesIndex("no run", () -> desk.out(0));
    }
}
