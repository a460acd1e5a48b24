/** The edges of what each instruction does: its operands, ints that wrap around, and how far a jump goes. */
public final class InstructionEdgesTest {
    private static final int MIN = Integer.MIN_VALUE;
    private static final int MAX = Integer.MAX_VALUE;
    private static final int[] INTS = {
        MIN, MIN + 1, -1073741824, -65536, -46341, -129, -2, -1, 0, 1, 2, 255, 256, 46340, 46341, 65536, 1073741824,
        MAX - 1, MAX};

    public static void main(String[] args) {
        Checks checks = new Checks("InstructionEdgesTest");
        checkEnd(checks);
        checkEveryConstant(checks);
        checkEveryLocalPushed(checks);
        checkEveryLocalSet(checks);
        checkNumbersAreInts(checks);
        checkOnlyZeroJumps(checks);
        checkEveryJump(checks);
        checkReturnOfTheFirstFrame(checks);
        checkReturnToACaller(checks);
        checkOutIsAtMost40(checks);
        checkInstructionsFollowOneAnother(checks);
        checks.finish();
    }

    /** "0 END": with nothing on the stack or something, the run is OVER, and its RESULT is none. */
    private static void checkEnd(Checks checks) {
        SegmentDesk empty = Programs.started(5, 100, 1, Programs.END);
        checks.same("END alone: steps", empty.step(2000), 1);
        checks.looks("END alone", empty, 2, 16, 16, 1, 0, 1, 0, 3, 0, 0, 0);
        SegmentDesk some = Programs.started(5, 100, 1, Programs.CONSTANT, 9, Programs.END);
        checks.same("END behind a number: steps", some.step(2000), 2);
        checks.looks("END behind a number", some, 2, 22, 22, 1, 0, 1, 0, 5, 1, 0, 0);
    }

    /** "1 k: k is pushed", a byte with its sign */
    private static void checkEveryConstant(Checks checks) {
        for (int k = -128; k <= 127; k++) {
            SegmentDesk desk = Programs.started(5, 100, 0, Programs.CONSTANT, k, Programs.OUT);
            desk.step(1);
            checks.looks("1 " + k, desk, 1, 18, 18, 1, 0, 1, 0, 5, 1);
            desk.step(1);
            checks.outs("1 " + k, desk, k);
        }
    }

    /** Local n is made 20 + n first, for each that is there. */
    private static SegmentDesk withLocals(int locals, int... instructions) {
        SegmentDesk desk = Programs.desk(locals);
        for (int n = 0; n < locals; n++) {
            Programs.append(desk, 0, Programs.CONSTANT, 20 + n, Programs.SET, n);
        }
        Programs.append(desk, 0, instructions);
        desk.start(0, 1, 4000);
        desk.step(2 * locals);
        return desk;
    }

    /** "2 n: local n is pushed"; BAD is "a local that is not there" */
    private static void checkEveryLocalPushed(Checks checks) {
        for (int locals = 0; locals <= 6; locals++) {
            for (int n = -128; n <= 127; n++) {
                String what = "2 " + n + " of " + locals + " locals";
                SegmentDesk desk = withLocals(locals, Programs.GET, n, Programs.OUT);
                boolean isThere = n >= 0 && n < locals;
                checks.same(what, desk.step(1), 1);
                checks.same(what, desk.look(0), isThere ? 1 : 3);
                checks.same(what + ": numbers", desk.look(8), isThere ? 1 : 0);
                checks.same(what + ": where", desk.look(7), 3 + 4 * locals + (isThere ? 2 : 0));
                desk.step(1);
                if (isThere) {
                    checks.outs(what, desk, 20 + n);
                }
            }
        }
    }

    /** "3 n: the top is taken, and is local n then"; BAD is "a local that is not there" and takes nothing */
    private static void checkEveryLocalSet(Checks checks) {
        for (int locals = 0; locals <= 6; locals++) {
            for (int n = -128; n <= 127; n++) {
                String what = "3 " + n + " of " + locals + " locals";
                SegmentDesk desk = withLocals(locals, Programs.CONSTANT, 99, Programs.SET, n);
                boolean isThere = n >= 0 && n < locals;
                checks.same(what, desk.step(2), 2);
                checks.same(what, desk.look(0), isThere ? 1 : 3);
                checks.same(what + ": numbers", desk.look(8), isThere ? 0 : 1);
                checks.same(what + ": where", desk.look(7), 3 + 4 * locals + (isThere ? 4 : 2));
                for (int other = 0; other < 7; other++) {
                    int due = other >= locals ? 0 : other == n ? 99 : 20 + other;
                    checks.same(what + ": local " + other, desk.local(0, other), due);
                }
            }
        }
    }

    /** "4 ADD, 5 SUBTRACT, 6 LESS (1 or 0), 7 MULTIPLY: [..] a op b is pushed"; "Numbers are ints." */
    private static void checkNumbersAreInts(Checks checks) {
        for (int a : INTS) {
            for (int b : INTS) {
                calculation(checks, Programs.ADD, a, b, a + b);
                calculation(checks, Programs.SUBTRACT, a, b, a - b);
                calculation(checks, Programs.LESS, a, b, a < b ? 1 : 0);
                calculation(checks, Programs.MULTIPLY, a, b, a * b);
            }
        }
        calculation(checks, Programs.ADD, MAX, 1, MIN);
        calculation(checks, Programs.ADD, MIN, -1, MAX);
        calculation(checks, Programs.SUBTRACT, MIN, 1, MAX);
        calculation(checks, Programs.SUBTRACT, 0, MIN, MIN);
        calculation(checks, Programs.LESS, MIN, MAX, 1);
        calculation(checks, Programs.LESS, MAX, MIN, 0);
        calculation(checks, Programs.MULTIPLY, MIN, -1, MIN);
        calculation(checks, Programs.MULTIPLY, 65536, 65536, 0);
        calculation(checks, Programs.MULTIPLY, 46341, 46341, -2147479015);
    }

    private static void calculation(Checks checks, int kind, int a, int b, int due) {
        SegmentDesk desk = Programs.desk(2, Programs.GET, 0);
        Programs.pushInt(desk, 0, b);
        Programs.append(desk, 0, kind, Programs.SET, 1, Programs.GET, 1, Programs.OUT, Programs.GET, 1,
                Programs.RETURN);
        desk.start(0, a, 4000);
        desk.step(1 + Programs.PUSH_INT_STEPS);
        String what = a + " and " + b + ", instruction " + kind;
        checks.same(what + ": numbers before", desk.look(8), 2);
        desk.step(1);
        checks.same(what + ": numbers behind", desk.look(8), 1);
        desk.step(5);
        checks.same(what + ": OVER", desk.look(0), 2);
        checks.same(what + ": local 1", desk.local(0, 1), due);
        checks.same(what + ": out(0)", desk.out(0), due);
        checks.same(what + ": result", desk.look(9), due);
    }

    /** "8 d: the top is taken; if it is 0, on at d bytes [..] behind this instruction's end", and else behind it */
    private static void checkOnlyZeroJumps(Checks checks) {
        for (int top : INTS) {
            SegmentDesk desk = Programs.started(top, 100, 1, Programs.GET, 0, Programs.JUMP_IF_ZERO, 3);
            desk.step(2);
            checks.looks("8 3 of " + top, desk, 1, 19, 23, 1, 0, 1, 0, top == 0 ? 10 : 7, 0);
        }
    }

    /** "d bytes (with sign) behind this instruction's end"; BAD is "an instruction that begins [..] outside" */
    private static void checkEveryJump(Checks checks) {
        for (int d = -128; d <= 127; d++) {
            jump(checks, d, 42 + d, Programs.JUMP, 0);
            jump(checks, d, 42 + d, Programs.JUMP_IF_ZERO, 0);
            jump(checks, d, 42, Programs.JUMP_IF_ZERO, 1);
        }
    }

    /** The jump lies at byte 40 of 80; bytes 2 to 37 and those behind the jump are END. */
    private static void jump(Checks checks, int d, int place, int kind, int top) {
        SegmentDesk desk = new SegmentDesk();
        Programs.append(desk, 0, 1, 37, Programs.END);
        Programs.padTo(desk, 0, 38);
        Programs.append(desk, 0, Programs.CONSTANT, top, kind, d);
        Programs.padTo(desk, 0, 80);
        desk.start(0, 0, 100);
        String what = "the jump " + kind + " " + d + " with " + top;
        checks.same(what, desk.step(2), 2);
        checks.same(what + ": it goes on", desk.look(0), 1);
        checks.same(what + ": where", desk.look(7), place);
        checks.same(what + ": one step more", desk.step(1), 1);
        if (place < 0 || place >= 80) {
            checks.same(what + ": outside is BAD", desk.look(0), 3);
            checks.same(what + ": outside it stays", desk.look(7), place);
        } else if (place >= 2 && place <= 37 || place >= 42) {
            checks.same(what + ": END inside", desk.look(0), 2);
        }
    }

    /** "if there is none, it is the RESULT, the run is over, and the frame stays", with the rest of its stack */
    private static void checkReturnOfTheFirstFrame(Checks checks) {
        for (int numbers = 1; numbers <= 12; numbers++) {
            SegmentDesk desk = Programs.desk(3);
            for (int i = 1; i <= numbers; i++) {
                Programs.append(desk, 0, Programs.CONSTANT, i);
            }
            desk.code(0, (byte) Programs.RETURN);
            desk.start(0, 77, 4000);
            checks.same("steps", desk.step(2000), numbers + 1);
            int held = 4 + 2 * numbers + 20 + 4 * numbers;
            int place = 3 + 2 * numbers;
            checks.looks(numbers + " numbers", desk, 2, held - 4, held, 1, 0, 1, 0, place, numbers - 1, numbers);
            checks.same("its local stays", desk.local(0, 0), 77);
            checks.states("its segment stays", desk, 3, 0, 0, 0, 0);
        }
    }

    /** "the top is taken, and is pushed for the caller"; "When a frame goes [..], its segment stays" */
    private static void checkReturnToACaller(Checks checks) {
        for (int numbers = 1; numbers <= 12; numbers++) {
            SegmentDesk desk = Programs.desk(0, Programs.CONSTANT, 40, Programs.CONSTANT, 41, Programs.CALL, 1, 0,
                    Programs.OUT, Programs.OUT);
            Programs.procedure(desk, 1, 6);
            for (int i = 1; i <= numbers; i++) {
                Programs.append(desk, 1, Programs.CONSTANT, i);
            }
            desk.code(1, (byte) Programs.RETURN);
            desk.start(0, 0, 4000);
            desk.step(3 + numbers);
            int held = 12 + 8 + 4 + 4 + 2 * numbers;
            int most = held + 32 + 4 * numbers;
            checks.looks(numbers + " numbers, before", desk, 1, most, most, 2, 0, 2, 1, 3 + 2 * numbers, numbers);
            desk.step(1);
            checks.looks(numbers + " numbers, behind", desk, 1, held + 4, most, 2, 0, 1, 0, 10, 2, 0);
            checks.states(numbers + " numbers, behind", desk, 3, 1, 0, 0, 0);
            checks.same("its locals went", desk.local(1, 0), 0);
            desk.step(2);
            checks.outs("the caller's numbers", desk, numbers, 40);
        }
    }

    /** "put OUT (at most 40; a 41st is BAD)": it takes nothing, and the 40 stay. */
    private static void checkOutIsAtMost40(Checks checks) {
        SegmentDesk desk = Programs.started(MIN, 4000, 1, Programs.GET, 0, Programs.OUT,
                Programs.GET, 0, Programs.CONSTANT, 1, Programs.ADD, Programs.SET, 0, Programs.JUMP, -12);
        for (int count = 0; count < 40; count++) {
            checks.same("put out before " + count, desk.look(10), count);
            desk.step(2);
            checks.same("put out behind " + count, desk.look(10), count + 1);
            checks.same("out(" + count + ")", desk.out(count), MIN + count);
            desk.step(5);
        }
        checks.same("40 are no end", desk.look(0), 1);
        checks.same("the 41st is a step", desk.step(2000), 2);
        checks.looks("the 41st", desk, 3, 15 + 12 + 4, 15 + 12 + 8, 1, 0, 1, 0, 5, 1, 0, 40);
        checks.same("out(0)", desk.out(0), MIN);
        checks.same("out(39)", desk.out(39), MIN + 39);
        checks.refusesIndex("out(40)", () -> desk.out(40));
        desk.start(0, 5, 4000);
        checks.outs("a new run has put out none", desk);
        checks.same("and may put out 40", desk.step(40 * 7), 280);
        checks.same("and has", desk.look(10), 40);
    }

    /** "its INSTRUCTIONS, one behind the other": where a frame is behind each of them, and what it holds. */
    private static void checkInstructionsFollowOneAnother(Checks checks) {
        SegmentDesk desk = Programs.started(4, 4000, 1,
                Programs.CONSTANT, 3, Programs.GET, 0, Programs.ADD, Programs.CONSTANT, 2, Programs.SUBTRACT,
                Programs.CONSTANT, 9, Programs.LESS, Programs.CONSTANT, 8, Programs.MULTIPLY, Programs.SET, 0,
                Programs.CONSTANT, 0, Programs.JUMP_IF_ZERO, 0, Programs.JUMP, 0, Programs.GET, 0, Programs.OUT);
        int[] places = {5, 7, 8, 10, 11, 13, 14, 16, 17, 19, 21, 23, 25, 27, 28};
        int[] numbers = {1, 2, 1, 2, 1, 2, 1, 2, 1, 0, 1, 0, 0, 1, 0};
        for (int i = 0; i < places.length; i++) {
            checks.same("step " + i, desk.step(1), 1);
            checks.same("where behind step " + i, desk.look(7), places[i]);
            checks.same("numbers behind step " + i, desk.look(8), numbers[i]);
            checks.same("memory behind step " + i, desk.look(1), 28 + 12 + 4 * numbers[i]);
        }
        checks.outs("what came of it", desk, 8);
    }
}
