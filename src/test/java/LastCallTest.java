/** "An object is used for at most 512 calls after it has been made": the last ones answer as well as the first. */
public final class LastCallTest {
    private static final int CALLS = 512;

    public static void main(String[] args) {
        Checks checks = new Checks("LastCallTest");
        checkSteps(checks);
        checkStarts(checks);
        checkClearedAndWritten(checks);
        checks.finish();
    }

    /** As many steps as 512 calls can do, with two segments that push each other out all the time. */
    private static void checkSteps(Checks checks) {
        SegmentDesk desk = new SegmentDesk();
        Programs.procedure(desk, 0, 1, Programs.GET, 0, Programs.CALL, 1, 0, Programs.CALL, 2, 0, Programs.SET, 0,
                Programs.JUMP, -12);
        for (int segment = 1; segment <= 2; segment++) {
            Programs.procedure(desk, segment, 1, Programs.GET, 0, Programs.CONSTANT, 1, Programs.ADD, Programs.RETURN);
        }
        int calls = 3 + 12 + 2 * 9;
        desk.start(0, 0, 15 + 12 + 9 + 12 + 8);
        calls++;
        int steps = 0;
        while (calls < CALLS - 6) {
            checks.same("call " + calls, desk.step(2000), 2000);
            steps += 2000;
            calls++;
        }
        int rounds = steps / 13;
        int rest = steps % 13;
        checks.same("in the last round: it goes on", desk.look(0), 1);
        checks.same("rounds", desk.local(0, 0), 2 * rounds);
        checks.same("loads", desk.look(3), 1 + 2 * rounds + (rest >= 7 ? 2 : rest >= 2 ? 1 : 0));
        checks.same("gone", desk.look(4), 2 * rounds - 1 + (rest >= 7 ? 2 : rest >= 2 ? 1 : 0));
        checks.same("most", desk.look(2), 56);
        checks.same("a step", desk.step(1), 1);
    }

    private static void checkStarts(Checks checks) {
        SegmentDesk desk = Programs.desk(6, Programs.GET, 0, Programs.OUT, Programs.JUMP, -5);
        int calls = 3 + 5;
        for (int run = 0; calls < CALLS - 5; run++) {
            desk.start(0, run, 8 + 32 + 4);
            checks.same("run " + run + ": steps", desk.step(2000), 122);
            checks.same("run " + run + ": BAD by the 41st", desk.look(0), 3);
            checks.same("run " + run + ": the 40th", desk.out(39), run);
            checks.same("run " + run + ": local 0", desk.local(0, 0), run);
            calls += 5;
        }
    }

    private static void checkClearedAndWritten(Checks checks) {
        SegmentDesk desk = new SegmentDesk();
        int calls = 0;
        for (int time = 0; calls < CALLS - 82; time++) {
            for (int length = 1; length <= 80; length++) {
                checks.same("time " + time + ": byte " + length, desk.code(4, (byte) time), length);
            }
            checks.refusesIndex("time " + time + ": byte 81", () -> desk.code(4, (byte) 0));
            desk.clear(4);
            calls += 82;
        }
        checks.same("no byte is left", desk.good(4), 0);
    }
}
