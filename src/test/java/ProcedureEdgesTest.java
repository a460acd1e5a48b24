/** The edges of what the document says of a procedure: its number of locals, its argument, and what calls it. */
public final class ProcedureEdgesTest {
    private static final int[] ARGUMENTS = {
        Integer.MIN_VALUE, Integer.MIN_VALUE + 1, -129, -1, 0, 1, 128, 65536, Integer.MAX_VALUE};

    public static void main(String[] args) {
        Checks checks = new Checks("ProcedureEdgesTest");
        checkEveryNumberOfLocalsAtStart(checks);
        checkEveryNumberOfLocalsInACall(checks);
        checkTheArgument(checks);
        checkOthersBeginAs0(checks);
        checkEverySegmentCalled(checks);
        checkEveryProcedureCalled(checks);
        checkAProcedureMayBeginWhereAnotherDoes(checks);
        checkNotGoodIsNotCalled(checks);
        checkASegmentMayCallItself(checks);
        checks.finish();
    }

    /** "how many LOCALS it has (0 .. 6 [..])"; BAD is "a procedure with another number of locals" */
    private static void checkEveryNumberOfLocalsAtStart(Checks checks) {
        for (int locals = -128; locals <= 127; locals++) {
            SegmentDesk desk = Programs.started(5, 4000, locals, Programs.END);
            if (locals >= 0 && locals <= 6) {
                int held = 4 + 8 + 4 * locals;
                checks.looks(locals + " locals", desk, 1, held, held, 1, 0, 1, 0, 3, 0, 0, 0);
                checks.same(locals + " locals: a step", desk.step(9), 1);
            } else {
                checks.looks(locals + " locals", desk, 3, 0, 0, 0, 0, 0, -1, -1, 0, 0, 0);
                checks.same(locals + " locals: no step", desk.step(9), 0);
            }
        }
    }

    /** The same in a call; "a call that is BAD [..] has taken its argument". */
    private static void checkEveryNumberOfLocalsInACall(Checks checks) {
        for (int locals = -128; locals <= 127; locals++) {
            SegmentDesk desk = Programs.desk(0, Programs.CONSTANT, 5, Programs.CALL, 1, 0);
            Programs.procedure(desk, 1, locals, Programs.END);
            desk.start(0, 0, 4000);
            checks.same(locals + " locals are called: steps", desk.step(2), 2);
            if (locals >= 0 && locals <= 6) {
                int held = 8 + 8 + 4 + 8 + 4 * locals;
                checks.looks(locals + " locals are called", desk, 1, held, held, 2, 0, 2, 1, 3, 0, 0, 0);
            } else {
                checks.looks(locals + " locals are called", desk, 3, 16, 20, 1, 0, 1, 0, 5, 0, 0, 0);
                checks.states(locals + " locals are called", desk, 3, 0, 0, 0, 0);
            }
        }
    }

    /** "local 0 is its argument, if it has locals" */
    private static void checkTheArgument(Checks checks) {
        for (int locals = 0; locals <= 6; locals++) {
            for (int x : ARGUMENTS) {
                SegmentDesk desk = Programs.desk(1, Programs.GET, 0, Programs.CALL, 1, 0);
                Programs.procedure(desk, 1, locals, Programs.END);
                desk.start(0, x, 4000);
                desk.step(2);
                checks.same(locals + " locals: local 0 of " + x, desk.local(1, 0), locals > 0 ? x : 0);
                for (int n = 1; n <= 6; n++) {
                    checks.same(locals + " locals: local " + n, desk.local(1, n), 0);
                }
                checks.same("it lies on no stack", desk.look(8), 0);
            }
        }
    }

    /** "others begin as 0", though a frame that went had numbers there, among its locals or on its stack. */
    private static void checkOthersBeginAs0(Checks checks) {
        SegmentDesk desk = Programs.desk(0, Programs.CONSTANT, 1, Programs.CALL, 1, 0, Programs.CALL, 1, 1,
                Programs.CALL, 2, 0);
        Programs.append(desk, 1, 2, 3, 31, 6);
        for (int n = 0; n < 6; n++) {
            Programs.append(desk, 1, Programs.CONSTANT, 50 + n, Programs.SET, n);
        }
        Programs.append(desk, 1, Programs.CONSTANT, 2, Programs.RETURN, 0);
        checks.same("the second procedure begins", desk.good(1), 2);
        for (int n = 0; n < 8; n++) {
            Programs.append(desk, 1, Programs.CONSTANT, 60 + n);
        }
        Programs.append(desk, 1, Programs.RETURN);
        Programs.procedure(desk, 2, 6, Programs.END);
        desk.start(0, 0, 4000);
        checks.same("steps", desk.step(2 + 14 + 1 + 9 + 1), 27);
        checks.same("in the third call", desk.look(6), 2);
        checks.same("its argument", desk.local(1, 0), 67);
        for (int n = 1; n < 6; n++) {
            checks.same("its local " + n, desk.local(1, n), 0);
        }
    }

    /** "10 s p: [..] procedure p of segment s is called": every byte as s; BAD if there is no such segment. */
    private static void checkEverySegmentCalled(Checks checks) {
        for (int s = -128; s <= 127; s++) {
            SegmentDesk desk = Programs.desk(0, Programs.CONSTANT, 5, Programs.CALL, s, 0);
            for (int other = 1; other <= 4; other++) {
                Programs.procedure(desk, other, 1, Programs.END);
            }
            desk.start(0, 0, 4000);
            desk.step(2);
            boolean isThere = s >= 0 && s <= 4;
            checks.same("a call of segment " + s, desk.look(0), isThere ? 1 : 3);
            checks.same("a call of segment " + s + ": frames", desk.look(5), isThere ? 2 : 1);
            checks.same("a call of segment " + s + ": the latest frame", desk.look(6), isThere ? s : 0);
            checks.same("a call of segment " + s + ": the argument is taken", desk.look(8), 0);
        }
    }

    /** "PROCEDURES 0 .. P - 1"; BAD is a call "of a procedure that it has not": every byte as p. */
    private static void checkEveryProcedureCalled(Checks checks) {
        for (int has = 1; has <= 4; has++) {
            for (int p = -128; p <= 127; p++) {
                SegmentDesk desk = Programs.desk(0, Programs.CONSTANT, 5, Programs.CALL, 1, p);
                desk.code(1, (byte) has);
                for (int i = 0; i < has; i++) {
                    desk.code(1, (byte) (has + 1 + i));
                }
                Programs.append(desk, 1, 0, 0, 0, 0, 0);
                desk.start(0, 0, 4000);
                desk.step(2);
                String what = "a call of procedure " + p + " of " + has;
                boolean isThere = p >= 0 && p < has;
                checks.same(what, desk.look(0), isThere ? 1 : 3);
                checks.same(what + ": where", desk.look(7), isThere ? has + 1 + p + 1 : 5);
                checks.same(what + ": loads", desk.look(3), isThere ? 2 : 1);
            }
        }
    }

    /** "bytes 1 .. P [..]: there PROCEDURES [..] BEGIN": nothing asks that they differ or rise. */
    private static void checkAProcedureMayBeginWhereAnotherDoes(Checks checks) {
        SegmentDesk desk = Programs.desk(0, Programs.CONSTANT, 5, Programs.CALL, 1, 3);
        Programs.append(desk, 1, 4, 7, 6, 5, 5, 0, 1, 2, 0);
        checks.same("four of them", desk.good(1), 4);
        desk.start(0, 0, 4000);
        desk.step(2);
        checks.looks("the last one", desk, 1, 8 + 8 + 9 + 8, 33, 2, 0, 2, 1, 6);
        desk.start(1, 7, 4000);
        checks.looks("the first one", desk, 1, 9 + 16, 25, 1, 0, 1, 1, 8);
    }

    /** BAD is "a call of a segment that is not GOOD": each way not to be. */
    private static void checkNotGoodIsNotCalled(Checks checks) {
        int[][] rows = {
            {}, {1}, {1, 2}, {0, 2, 0}, {-1, 2, 0}, {5, 6, 6, 6, 6, 6, 0}, {1, 1, 0}, {1, 3, 0}, {1, -1, 0}};
        for (int[] row : rows) {
            SegmentDesk desk = Programs.desk(0, Programs.CONSTANT, 4, Programs.CONSTANT, 5, Programs.CALL, 1, 0);
            Programs.append(desk, 1, row);
            desk.start(0, 0, 4000);
            checks.same("steps", desk.step(2000), 3);
            String what = "a call of " + java.util.Arrays.toString(row);
            checks.looks(what, desk, 3, 10 + 8 + 4, 10 + 8 + 8, 1, 0, 1, 0, 7, 1, 0, 0);
            checks.states(what, desk, 3, 0, 0, 0, 0);
        }
    }

    /** "if the segment is not resident": a segment that calls itself is no LOAD, and lies in memory once. */
    private static void checkASegmentMayCallItself(Checks checks) {
        SegmentDesk desk = Programs.started(5, 9 + 3 * 12, 1, Programs.GET, 0, Programs.CALL, 0, 0, Programs.RETURN);
        checks.same("steps", desk.step(4), 4);
        checks.looks("three frames", desk, 1, 45, 45, 1, 0, 3, 0, 3, 0);
        for (int i = 0; i < 3; i++) {
            checks.same("local 0 of frame " + i, desk.local(i, 0), 5);
        }
        checks.same("one more number", desk.step(9), 1);
        checks.same("has no room", desk.look(0), 4);
    }
}
