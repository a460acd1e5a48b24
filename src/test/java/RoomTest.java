/** Which segments go when room is needed, which stay, and when the run ends by OVERFLOW (promises 5 to 8). */
public final class RoomTest {
    public static void main(String[] args) {
        Checks checks = new Checks("RoomTest");
        checkTheLeastLatelyCalledGoes(checks);
        checkACallMakesLate(checks);
        checkAnySegmentMayGo(checks);
        checkSegmentNeedsRoom(checks);
        checkFrameNeedsRoom(checks);
        checkNumberNeedsRoom(checks);
        checkTheCalledOneStays(checks);
        checkActiveOnesStay(checks);
        checkOverflowInACall(checks);
        checkMostBetweenSegmentAndFrame(checks);
        checkOutputIsTheSame(checks);
        checks.finish();
    }

    /** Segment 0 calls each of the segments with 1 and drops the answer; each answers without a number more. */
    private static SegmentDesk calling(int... segments) {
        SegmentDesk desk = new SegmentDesk();
        Programs.procedure(desk, 0, 1);
        for (int segment : segments) {
            Programs.append(desk, 0, Programs.CONSTANT, 1, Programs.CALL, segment, 0, Programs.SET, 0);
        }
        Programs.append(desk, 0, Programs.END);
        for (int segment = 1; segment < 5; segment++) {
            Programs.procedure(desk, segment, 1, Programs.GET, 0, Programs.RETURN);
            Programs.padTo(desk, segment, 20);
        }
        return desk;
    }

    private static int callerBytes(int calls) {
        return 4 + 7 * calls + 12;
    }

    /** Each call is five steps. */
    private static void afterCalls(Checks checks, SegmentDesk desk, int calls, int limit, int... states) {
        desk.start(0, 0, limit);
        checks.same("steps", desk.step(5 * calls), 5 * calls);
        checks.states("after " + calls + " calls", desk, states);
    }

    private static void checkTheLeastLatelyCalledGoes(Checks checks) {
        SegmentDesk desk = calling(4, 2, 3, 1);
        int limit = callerBytes(4) + 3 * 20 + 16;
        afterCalls(checks, desk, 3, limit, 3, 0, 1, 1, 1);
        afterCalls(checks, desk, 4, limit, 3, 1, 1, 1, 0);
        checks.looks("4 went", desk, 1, limit - 16, limit, 5, 1);
        int narrow = callerBytes(4) + 2 * 20 + 16;
        afterCalls(checks, desk, 4, narrow, 3, 1, 0, 1, 0);
        checks.looks("4 and 2 went", desk, 1, narrow - 16, narrow, 5, 2);
    }

    private static void checkACallMakesLate(Checks checks) {
        SegmentDesk desk = calling(1, 2, 3, 1, 4);
        int limit = callerBytes(5) + 3 * 20 + 16;
        afterCalls(checks, desk, 5, limit, 3, 1, 0, 1, 1);
        checks.looks("2 went, 1 was called again", desk, 1, limit - 16, limit, 5, 1);
        SegmentDesk again = calling(1, 2, 3, 4, 1);
        int roomForTwo = callerBytes(5) + 2 * 20 + 16;
        afterCalls(checks, again, 5, roomForTwo, 3, 1, 0, 0, 1);
        checks.looks("1 went and came back", again, 1, roomForTwo - 16, roomForTwo, 6, 3);
    }

    /** The run begins in another segment each time, and each of the others goes in its turn. */
    private static void checkAnySegmentMayGo(Checks checks) {
        for (int first = 0; first < 5; first++) {
            SegmentDesk desk = new SegmentDesk();
            Programs.procedure(desk, first, 1);
            for (int i = 1; i <= 4; i++) {
                int called = (first + i) % 5;
                Programs.append(desk, first, Programs.CONSTANT, 1, Programs.CALL, called, 0, Programs.SET, 0);
                Programs.procedure(desk, called, 1, Programs.GET, 0, Programs.RETURN);
                Programs.padTo(desk, called, 20);
            }
            Programs.append(desk, first, Programs.END);
            desk.start(first, 0, callerBytes(4) + 20 + 16);
            for (int i = 1; i <= 4; i++) {
                desk.step(5);
                for (int other = 0; other < 5; other++) {
                    int due = other == first ? 3 : other == (first + i) % 5 ? 1 : 0;
                    checks.same(first + " called " + i + ": state(" + other + ")", desk.state(other), due);
                }
            }
            checks.same("three went", desk.look(4), 3);
        }
    }

    private static void checkSegmentNeedsRoom(Checks checks) {
        SegmentDesk desk = calling(1, 2);
        int full = callerBytes(2) + 2 * 20;
        desk.start(0, 0, full - 1);
        desk.step(7);
        checks.looks("1 went for the length of 2", desk, 1, full - 20 + 12, full - 20 + 16, 3, 1, 2, 2, 3);
        checks.states("1 went", desk, 3, 0, 3);
    }

    private static void checkFrameNeedsRoom(Checks checks) {
        SegmentDesk desk = calling(1, 2);
        int full = callerBytes(2) + 2 * 20;
        desk.start(0, 0, full + 11);
        desk.step(7);
        checks.looks("1 went for the frame of 2", desk, 1, full - 20 + 12, full, 3, 1, 2, 2, 3);
        checks.states("1 went", desk, 3, 0, 3);
        desk.start(0, 0, full + 12);
        desk.step(7);
        checks.looks("just room for the frame", desk, 1, full + 12, full + 12, 3, 0, 2, 2, 3);
        checks.states("1 stays", desk, 3, 1, 3);
    }

    private static void checkNumberNeedsRoom(Checks checks) {
        SegmentDesk desk = calling(1, 2);
        int full = callerBytes(2) + 2 * 20;
        desk.start(0, 0, full + 15);
        desk.step(8);
        checks.looks("1 went for a local that is pushed", desk, 1, full - 20 + 16, full + 12, 3, 1, 2, 2, 5, 1);
        checks.states("1 went", desk, 3, 0, 3);
        SegmentDesk constants = Programs.desk(0, Programs.CONSTANT, 1, Programs.CALL, 1, 0, Programs.CONSTANT, 2,
                Programs.CONSTANT, 3, Programs.CONSTANT, 4, Programs.END);
        Programs.procedure(constants, 1, 0, Programs.CONSTANT, 2, Programs.RETURN);
        int held = 15 + 8 + 6;
        constants.start(0, 0, held + 12);
        constants.step(6);
        checks.looks("room for three numbers", constants, 1, held + 12, held + 12, 2, 0);
        constants.step(1);
        checks.looks("the fourth needs 1", constants, 1, held - 6 + 16, held + 12, 2, 1);
        checks.states("1 went", constants, 3, 0);
    }

    /** A segment that is resident and has no frame yet is not taken to make room for its own frame. */
    private static void checkTheCalledOneStays(Checks checks) {
        SegmentDesk desk = Programs.desk(0, Programs.CONSTANT, 1, Programs.CALL, 1, 0,
                Programs.CONSTANT, 1, Programs.CALL, 2, 0, Programs.CONSTANT, 1, Programs.CALL, 1, 1, Programs.END);
        Programs.append(desk, 1, 2, 3, 7, 0, Programs.CONSTANT, 1, Programs.RETURN, 6, Programs.END);
        Programs.procedure(desk, 2, 0, Programs.CONSTANT, 1, Programs.RETURN);
        // The caller and its frame, 1, 2, and the two answers on the stack when 1 is called the second time.
        int held = 19 + 8 + 9 + 6 + 8;
        desk.start(0, 0, held + 31);
        checks.same("steps", desk.step(9), 9);
        checks.same("nothing went yet", desk.look(4), 0);
        desk.step(1);
        checks.looks("2 went, though 1 was called less lately", desk, 1, held - 6 + 32, held - 6 + 32, 3, 1, 2, 1, 8);
        checks.states("1 is active", desk, 3, 3, 0);
        desk.start(0, 0, held - 6 + 31);
        desk.step(10);
        checks.same("OVERFLOW when only 1 is left", desk.look(0), 4);
        checks.states("1 stays, but has no frame", desk, 3, 1, 0);
    }

    private static void checkActiveOnesStay(Checks checks) {
        SegmentDesk desk = Programs.desk(0, Programs.CONSTANT, 1, Programs.CALL, 1, 0, Programs.END);
        Programs.procedure(desk, 1, 0, Programs.CONSTANT, 1, Programs.CALL, 2, 0, Programs.END);
        Programs.procedure(desk, 2, 0, Programs.CONSTANT, 1, Programs.JUMP, -4);
        desk.start(0, 0, 9 + 9 + 7 + 24 + 8);
        checks.same("steps", desk.step(2000), 2 + 2 + 5);
        checks.looks("OVERFLOW", desk, 4, 9 + 9 + 7 + 24 + 8, 9 + 9 + 7 + 24 + 8, 3, 0, 3, 2, 3, 2);
        checks.states("all are active", desk, 3, 3, 3);
    }

    private static void checkOverflowInACall(Checks checks) {
        SegmentDesk desk = calling(1, 2, 3);
        int caller = callerBytes(3);
        Programs.padTo(desk, 3, 80);
        desk.start(0, 0, caller + 79);
        checks.same("steps, the call included", desk.step(2000), 12);
        checks.looks("no room for the length of 3", desk, 4, caller, caller + 56, 3, 2, 1, 0, 3 + 14 + 2, 0);
        checks.states("those that went stay away", desk, 3, 0, 0, 0);
        desk.start(0, 0, caller + 91);
        checks.same("steps, the call included", desk.step(2000), 12);
        checks.looks("no room for its frame", desk, 4, caller + 80, caller + 80, 4, 2, 1, 0, 3 + 14 + 2, 0);
        checks.states("3 is resident", desk, 3, 0, 0, 1);
        checks.same("no frame of 3", desk.local(1, 0), 0);
    }

    /** The segment is in memory before the frame is: what goes for the frame was held beside it. */
    private static void checkMostBetweenSegmentAndFrame(Checks checks) {
        SegmentDesk desk = calling(1, 2);
        Programs.padTo(desk, 1, 60);
        int full = callerBytes(2) + 60 + 20;
        desk.start(0, 0, full);
        desk.step(7);
        checks.looks("the most was before the frame", desk, 1, full - 60 + 12, full, 3, 1);
    }

    /** 0 counts down from its argument and puts out what 1, and 2 by way of 1, make of it. */
    private static SegmentDesk ranWith(int limit) {
        SegmentDesk desk = Programs.desk(1, Programs.GET, 0, Programs.JUMP_IF_ZERO, 21,
                Programs.GET, 0, Programs.CALL, 1, 0, Programs.OUT, Programs.GET, 0, Programs.CALL, 2, 0, Programs.OUT,
                Programs.GET, 0, Programs.CONSTANT, 1, Programs.SUBTRACT, Programs.SET, 0, Programs.JUMP, -25,
                Programs.END);
        Programs.procedure(desk, 1, 1, Programs.GET, 0, Programs.GET, 0, Programs.MULTIPLY, Programs.RETURN);
        Programs.procedure(desk, 2, 1, Programs.GET, 0, Programs.CALL, 1, 0, Programs.CONSTANT, -1, Programs.MULTIPLY,
                Programs.RETURN);
        desk.start(0, 2, limit);
        desk.step(2000);
        return desk;
    }

    private static void checkOutputIsTheSame(Checks checks) {
        // Three segments with a frame of one local each, and two numbers: then all are active.
        int least = 29 + 9 + 12 + 3 * 12 + 8;
        for (int limit = 0; limit <= 2 * least; limit++) {
            SegmentDesk desk = ranWith(limit);
            checks.same("limit " + limit, desk.look(0), limit < least ? 4 : 2);
            if (limit >= least) {
                checks.outs("limit " + limit, desk, 4, -4, 1, -1);
            }
        }
        checks.same("the least limit holds no more", ranWith(least).look(2), least);
    }
}
