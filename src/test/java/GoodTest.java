/** Promise 4. */
public final class GoodTest {
    public static void main(String[] args) {
        Checks checks = new Checks("GoodTest");
        checkRows(checks);
        checkBeginsWithoutSign(checks);
        checkWrongSegments(checks);
        checkItLeavesTheRun(checks);
        checks.finish();
    }

    private static void checkRows(Checks checks) {
        row(checks, 0);
        row(checks, 0, 1);
        row(checks, 0, 1, 2);
        row(checks, 0, 1, 1, 0);
        row(checks, 1, 1, 2, 0);
        row(checks, 1, 1, 2, 99);
        row(checks, 0, 1, 3, 0);
        row(checks, 1, 1, 3, 0, 0);
        row(checks, 0, 0, 2, 0);
        row(checks, 0, -1, 2, 0);
        row(checks, 0, 2, 3);
        row(checks, 0, 2, 3, 3);
        row(checks, 2, 2, 3, 3, 0);
        row(checks, 0, 2, 2, 3, 0);
        row(checks, 0, 2, 3, 2, 0);
        row(checks, 0, 2, 3, 4, 0);
        row(checks, 3, 3, 5, 4, 4, 0, 0);
        row(checks, 0, 3, 5, 4, 6, 0, 0);
        row(checks, 4, 4, 5, 5, 5, 5, 0);
        row(checks, 0, 4, 5, 5, 5, 4, 0);
        row(checks, 0, 4, 5, 5, 5, 6, 0);
        row(checks, 0, 5, 6, 6, 6, 6, 6, 0);
    }

    private static void row(Checks checks, int due, int... bytes) {
        SegmentDesk desk = new SegmentDesk();
        Programs.append(desk, 2, bytes);
        checks.same("good of " + java.util.Arrays.toString(bytes), desk.good(2), due);
    }

    private static void checkBeginsWithoutSign(Checks checks) {
        SegmentDesk desk = new SegmentDesk();
        Programs.append(desk, 0, 1, 79);
        Programs.padTo(desk, 0, 79);
        checks.same("a begin just behind the end", desk.good(0), 0);
        desk.code(0, (byte) 0);
        checks.same("a begin at the last byte of 80", desk.good(0), 1);
        Programs.append(desk, 1, 1, -1);
        Programs.padTo(desk, 1, 80);
        checks.same("255 is above every length", desk.good(1), 0);
        Programs.append(desk, 2, 1, 80);
        Programs.padTo(desk, 2, 80);
        checks.same("80 of 80", desk.good(2), 0);
    }

    private static void checkWrongSegments(Checks checks) {
        SegmentDesk desk = new SegmentDesk();
        for (int segment : new int[] {-1, 5, Integer.MIN_VALUE, Integer.MAX_VALUE}) {
            checks.refusesArgument("good of " + segment, () -> desk.good(segment));
        }
    }

    private static void checkItLeavesTheRun(Checks checks) {
        SegmentDesk desk = Programs.started(0, 100, 0, Programs.JUMP, -2);
        desk.good(0);
        desk.good(1);
        checks.same("the run is there still", desk.look(0), 1);
    }
}
