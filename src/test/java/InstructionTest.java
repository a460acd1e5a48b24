/** What each instruction does, and when it is BAD (promise 6 and the terms). */
public final class InstructionTest {
    private static final int MIN = Integer.MIN_VALUE;
    private static final int MAX = Integer.MAX_VALUE;

    public static void main(String[] args) {
        Checks checks = new Checks("InstructionTest");
        checkConstants(checks);
        checkArithmetic(checks);
        checkLocals(checks);
        checkJumps(checks);
        checkCodeAtByte0(checks);
        checkReturns(checks);
        checkEndInACall(checks);
        checkBadInstructions(checks);
        checkBadCalls(checks);
        checkTheLastOut(checks);
        checks.finish();
    }

    private static void checkConstants(Checks checks) {
        for (int k : new int[] {0, 1, 127, -1, -128}) {
            SegmentDesk desk = Programs.started(0, 100, 0, Programs.CONSTANT, k, Programs.OUT, Programs.END);
            desk.step(2);
            checks.outs("constant " + k, desk, k);
            checks.same("OUT took it", desk.look(8), 0);
        }
    }

    private static void checkArithmetic(Checks checks) {
        calculation(checks, Programs.ADD, 5, 7, 12);
        calculation(checks, Programs.ADD, MAX, 1, MIN);
        calculation(checks, Programs.SUBTRACT, 5, 7, -2);
        calculation(checks, Programs.SUBTRACT, MIN, 1, MAX);
        calculation(checks, Programs.LESS, 5, 7, 1);
        calculation(checks, Programs.LESS, 7, 5, 0);
        calculation(checks, Programs.LESS, 7, 7, 0);
        calculation(checks, Programs.LESS, MIN, 127, 1);
        calculation(checks, Programs.LESS, MAX, -128, 0);
        calculation(checks, Programs.MULTIPLY, -5, 7, -35);
        calculation(checks, Programs.MULTIPLY, MAX, 2, -2);
    }

    private static void calculation(Checks checks, int kind, int a, int b, int due) {
        SegmentDesk desk = Programs.started(a, 100, 1, Programs.GET, 0, Programs.CONSTANT, b, kind, Programs.RETURN);
        desk.step(3);
        checks.same("numbers behind instruction " + kind, desk.look(8), 1);
        checks.same("memory behind instruction " + kind, desk.look(1), 9 + 12 + 4);
        desk.step(1);
        checks.same(a + " op " + kind + " " + b, desk.look(9), due);
    }

    private static void checkLocals(Checks checks) {
        SegmentDesk desk = Programs.started(9, 100, 6,
                Programs.CONSTANT, 4, Programs.SET, 5, Programs.GET, 5, Programs.GET, 0, Programs.SUBTRACT,
                Programs.SET, 0, Programs.GET, 1, Programs.END);
        desk.step(2);
        checks.same("local 5", desk.local(0, 5), 4);
        checks.same("SET took it", desk.look(8), 0);
        desk.step(4);
        checks.same("the argument may be set", desk.local(0, 0), -5);
        desk.step(1);
        checks.looks("behind GET", desk, 1, 17 + 32 + 4, 17 + 32 + 8, 1, 0, 1, 0, 16, 1);
    }

    private static void checkJumps(Checks checks) {
        SegmentDesk desk = Programs.desk(1, Programs.GET, 0, Programs.JUMP_IF_ZERO, 3, Programs.CONSTANT, 1,
                Programs.RETURN, Programs.JUMP, 1, Programs.END, Programs.CONSTANT, 2, Programs.RETURN);
        desk.start(0, -1, 100);
        checks.same("not 0", desk.step(100), 4);
        checks.same("not 0: result", desk.look(9), 1);
        desk.start(0, 0, 100);
        checks.same("0: a jump over END", desk.step(100), 5);
        checks.same("0: result", desk.look(9), 2);
        jumpOut(checks, 3, -6, -1);
        jumpOut(checks, 3, -128, -123);
        jumpOut(checks, 3, 127, 132);
        jumpOut(checks, 3, 1, 6);
    }

    /** A jump may leave the segment; the step that begins there is BAD. */
    private static void jumpOut(Checks checks, int at, int d, int place) {
        SegmentDesk desk = Programs.started(0, 100, 0, Programs.JUMP, d, Programs.END);
        checks.same("begins at", desk.look(7), at);
        checks.same("the jump " + d, desk.step(1), 1);
        checks.same("it goes on", desk.look(0), 1);
        checks.same("where it is", desk.look(7), place);
        checks.same("one step more", desk.step(9), 1);
        checks.same("BAD", desk.look(0), 3);
        checks.same("where it was", desk.look(7), place);
    }

    /** The bytes before the procedures are in the segment too: 1 2 pushes 2, and the 0 for no locals is END. */
    private static void checkCodeAtByte0(Checks checks) {
        SegmentDesk desk = Programs.started(0, 100, 0, Programs.JUMP, -5);
        desk.step(1);
        checks.same("at byte 0", desk.look(7), 0);
        desk.step(1);
        checks.looks("1 2 pushes 2", desk, 1, 5 + 8 + 4, 5 + 8 + 4, 1, 0, 1, 0, 2, 1);
        desk.step(1);
        checks.looks("the number of locals is END", desk, 2, 5 + 8 + 4, 5 + 8 + 4, 1, 0, 1, 0, 2, 1);
    }

    private static void checkReturns(Checks checks) {
        SegmentDesk desk = Programs.desk(2, Programs.CONSTANT, 3, Programs.CONSTANT, 5, Programs.CALL, 1, 1,
                Programs.ADD, Programs.RETURN);
        Programs.append(desk, 1, 2, 3, 4, Programs.END, 1,
                Programs.CONSTANT, 9, Programs.GET, 0, Programs.CONSTANT, 2, Programs.MULTIPLY, Programs.RETURN);
        desk.start(0, 0, 400);
        desk.step(3);
        checks.looks("called", desk, 1, 12 + 13 + 16 + 12 + 4, 12 + 13 + 16 + 12 + 4, 2, 0, 2, 1, 5, 0);
        checks.same("the argument", desk.local(1, 0), 5);
        desk.step(5);
        checks.looks("back, the frame gone with its stack", desk, 1, 12 + 13 + 16 + 8, 12 + 13 + 16 + 4 + 12 + 12,
                2, 0, 1, 0, 10, 2, 0);
        checks.states("its segment stays", desk, 3, 1);
        desk.step(2);
        checks.looks("the last RETURN", desk, 2, 12 + 13 + 16, 12 + 13 + 16 + 4 + 12 + 12, 2, 0, 1, 0, 11, 0, 13);
        checks.states("the frame stays", desk, 3, 1);
    }

    private static void checkEndInACall(Checks checks) {
        SegmentDesk desk = Programs.started(0, 400, 1, Programs.GET, 0, Programs.CALL, 1, 0, Programs.END);
        Programs.procedure(desk, 1, 1, Programs.CONSTANT, 8, Programs.END);
        desk.start(0, 0, 400);
        checks.same("steps", desk.step(2000), 4);
        checks.looks("all frames stay", desk, 2, 9 + 6 + 24 + 4, 9 + 6 + 24 + 4, 2, 0, 2, 1, 5, 1, 0, 0);
        checks.states("both are active", desk, 3, 3);
    }

    private static void checkBadInstructions(Checks checks) {
        bad(checks, "13", 0, 13);
        bad(checks, "127", 0, 127);
        bad(checks, "-1", 0, -1);
        bad(checks, "-128", 0, -128);
        bad(checks, "nothing there", 0);
        int[] twoBytes = {Programs.CONSTANT, Programs.GET, Programs.SET, Programs.JUMP_IF_ZERO, Programs.JUMP};
        for (int kind : twoBytes) {
            bad(checks, "cut off: " + kind, 1, kind);
        }
        bad(checks, "cut off: CALL", 1, Programs.CALL, 0);
        bad(checks, "cut off: CALL alone", 1, Programs.CALL);
        for (int n : new int[] {2, 6, 127, -1, -128}) {
            bad(checks, "GET " + n, 1, Programs.GET, n);
            bad(checks, "SET " + n, 1, Programs.SET, n);
        }
        for (int kind = Programs.ADD; kind <= Programs.MULTIPLY; kind++) {
            bad(checks, "no number: " + kind, 0, kind);
            bad(checks, "one number: " + kind, 1, kind);
        }
        bad(checks, "no number: SET", 0, Programs.SET, 0);
        bad(checks, "no number: JUMP_IF_ZERO", 0, Programs.JUMP_IF_ZERO, 0);
        bad(checks, "no number: CALL", 0, Programs.CALL, 0, 0);
        bad(checks, "no number: RETURN", 0, Programs.RETURN);
        bad(checks, "no number: OUT", 0, Programs.OUT);
    }

    /** With some numbers on the stack and two locals, the instruction is BAD and changes nothing. */
    private static void bad(Checks checks, String what, int numbers, int... instruction) {
        SegmentDesk desk = new SegmentDesk();
        Programs.procedure(desk, 0, 2);
        for (int i = 0; i < numbers; i++) {
            Programs.append(desk, 0, Programs.CONSTANT, 3);
        }
        Programs.append(desk, 0, instruction);
        desk.start(0, 1, 100);
        int held = 3 + 2 * numbers + instruction.length + 16 + 4 * numbers;
        checks.same(what + ": steps", desk.step(100), numbers + 1);
        checks.looks(what, desk, 3, held, held, 1, 0, 1, 0, 3 + 2 * numbers, numbers, 0, 0);
        checks.same(what + ": local 0", desk.local(0, 0), 1);
        checks.same(what + ": local 1", desk.local(0, 1), 0);
    }

    private static void checkBadCalls(Checks checks) {
        badCall(checks, "segment 5", 5, 0);
        badCall(checks, "segment 127", 127, 0);
        badCall(checks, "segment -1", -1, 0);
        badCall(checks, "an empty segment", 3, 0);
        badCall(checks, "a segment not GOOD", 2, 0);
        badCall(checks, "procedure 2 of 2", 1, 2);
        badCall(checks, "procedure -1", 1, -1);
        badCall(checks, "procedure 127", 1, 127);
        badCall(checks, "7 locals", 1, 1);
    }

    /** The argument is taken, and nothing else. */
    private static void badCall(Checks checks, String what, int segment, int procedure) {
        SegmentDesk desk = Programs.desk(0, Programs.CONSTANT, 6, Programs.CONSTANT, 7,
                Programs.CALL, segment, procedure, Programs.END);
        Programs.append(desk, 1, 2, 3, 4, 0, 7, Programs.END);
        Programs.append(desk, 2, 1, 3, 0);
        desk.start(0, 0, 400);
        checks.same("a call of " + what, desk.step(100), 3);
        checks.looks("a call of " + what, desk, 3, 11 + 8 + 4, 11 + 8 + 8, 1, 0, 1, 0, 7, 1, 0, 0);
        checks.states("a call of " + what, desk, 3, 0, 0, 0, 0);
    }

    private static void checkTheLastOut(Checks checks) {
        SegmentDesk desk = Programs.started(0, 100, 0, Programs.CONSTANT, 6, Programs.OUT, Programs.JUMP, -5);
        checks.same("40 go out", desk.step(119), 119);
        checks.same("it goes on", desk.look(0), 1);
        checks.same("40", desk.look(10), 40);
        checks.same("a 41st is BAD", desk.step(100), 3);
        checks.looks("it takes nothing", desk, 3, 8 + 8 + 4, 8 + 8 + 4, 1, 0, 1, 0, 5, 1, 0, 40);
    }
}
