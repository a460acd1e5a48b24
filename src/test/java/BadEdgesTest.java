/** Each thing that the document calls BAD, and next to it what is not; "An instruction that is BAD takes nothing". */
public final class BadEdgesTest {
    /** By its first byte: an instruction's bytes, with operands that are right, and the numbers that it takes. */
    private static final int[][] WHOLE = {
        {0}, {1, 5}, {2, 0}, {3, 0}, {4}, {5}, {6}, {7}, {8, 0}, {9, 0}, {10, 1, 0}, {11}, {12}};
    private static final int[] TAKES = {0, 0, 0, 1, 2, 2, 2, 2, 1, 0, 1, 1, 1};

    public static void main(String[] args) {
        Checks checks = new Checks("BadEdgesTest");
        checkEveryFirstByte(checks);
        checkInstructionsAtTheEnd(checks);
        checkInstructionsAtTheEndOf80(checks);
        checkNothingBehindTheEnd(checks);
        checkTheTopOfNothing(checks);
        checkAStackOfItsOwn(checks);
        checkTheCallersStackComesBack(checks);
        checkBadBeforeRoom(checks);
        checkBadCallsTakeTheArgumentAlone(checks);
        checkCutOffCallsTakeNothing(checks);
        checkBadStaysBad(checks);
        checks.finish();
    }

    /** A desk at an instruction that has so many numbers, 3 each, and 2 locals; segment 1 may be called. */
    private static SegmentDesk at(int numbers, int length, int... instruction) {
        SegmentDesk desk = Programs.desk(2);
        for (int i = 0; i < numbers; i++) {
            Programs.append(desk, 0, Programs.CONSTANT, 3);
        }
        int pad = length - 3 - 2 * numbers - instruction.length;
        if (pad >= 2) {
            Programs.append(desk, 0, Programs.JUMP, pad - 2);
            Programs.padTo(desk, 0, length - instruction.length);
        }
        Programs.append(desk, 0, instruction);
        Programs.procedure(desk, 1, 1, Programs.END);
        desk.start(0, 6, 4000);
        desk.step(numbers + (pad >= 2 ? 1 : 0));
        return desk;
    }

    private static void isBad(Checks checks, String what, SegmentDesk desk) {
        String before = Snapshot.of(desk);
        checks.same(what + ": it goes on before", desk.look(0), 1);
        checks.same(what + ": a step", desk.step(2000), 1);
        checks.sameText(what + ": BAD, and nothing else", Snapshot.of(desk), before.replaceFirst("look 1", "look 3"));
    }

    /** BAD is "another first byte" than those of the 13 instructions. */
    private static void checkEveryFirstByte(Checks checks) {
        for (int first = -128; first <= 127; first++) {
            if (first >= 0 && first <= 12) {
                SegmentDesk desk = at(2, 0, WHOLE[first]);
                checks.same("first byte " + first, desk.step(1), 1);
                checks.same("first byte " + first + " is not BAD", desk.look(0), first == 0 || first == 11 ? 2 : 1);
            } else {
                isBad(checks, "first byte " + first, at(2, 0, first, 0, 0));
            }
        }
    }

    /** BAD is "an instruction that begins or ends outside its segment": whole at its end, and cut off by it. */
    private static void checkInstructionsAtTheEnd(Checks checks) {
        checkInstructionsAtTheEnd(checks, 0);
    }

    /** The same where the disk has no room for a byte more. */
    private static void checkInstructionsAtTheEndOf80(Checks checks) {
        checkInstructionsAtTheEnd(checks, 80);
    }

    private static void checkInstructionsAtTheEnd(Checks checks, int length) {
        for (int first = 0; first <= 12; first++) {
            String what = "instruction " + first + " of " + length;
            SegmentDesk whole = at(2, length, WHOLE[first]);
            checks.same(what, whole.step(1), 1);
            checks.same(what + " ends at the end", whole.look(0), first == 0 || first == 11 ? 2 : 1);
            for (int bytes = 1; bytes < WHOLE[first].length; bytes++) {
                int[] part = java.util.Arrays.copyOf(WHOLE[first], bytes);
                isBad(checks, what + " cut off behind " + bytes, at(2, length, part));
            }
        }
    }

    /** BAD is "an instruction that begins [..] outside its segment": the one behind the last one does. */
    private static void checkNothingBehindTheEnd(Checks checks) {
        isBad(checks, "no instruction at all", at(0, 0));
        isBad(checks, "none behind two", at(2, 0));
        SegmentDesk last = at(0, 80, Programs.CONSTANT, 5);
        checks.same("the last of 80", last.step(1), 1);
        checks.same("it goes on behind it", last.look(7), 80);
        isBad(checks, "none behind byte 79", last);
    }

    /** BAD is "the top of nothing ([..] what an instruction needs to take must be there)" */
    private static void checkTheTopOfNothing(Checks checks) {
        for (int first = 0; first <= 12; first++) {
            for (int numbers = 0; numbers <= 3; numbers++) {
                String what = "instruction " + first + " with " + numbers + " numbers";
                SegmentDesk desk = at(numbers, 0, WHOLE[first]);
                if (numbers < TAKES[first]) {
                    isBad(checks, what, desk);
                } else {
                    checks.same(what, desk.step(1), 1);
                    checks.same(what + " is not BAD", desk.look(0), first == 0 || first == 11 ? 2 : 1);
                }
            }
        }
    }

    /** "each frame has a stack of its own": what lies on the caller's is not there for the one called. */
    private static void checkAStackOfItsOwn(Checks checks) {
        for (int first = 0; first <= 12; first++) {
            for (int numbers = 0; numbers < TAKES[first]; numbers++) {
                SegmentDesk desk = Programs.desk(0, Programs.CONSTANT, 1, Programs.CONSTANT, 2, Programs.CONSTANT, 3,
                        Programs.CALL, 1, 0);
                Programs.procedure(desk, 1, 1);
                for (int i = 0; i < numbers; i++) {
                    Programs.append(desk, 1, Programs.CONSTANT, 9);
                }
                Programs.append(desk, 1, WHOLE[first]);
                desk.start(0, 0, 4000);
                desk.step(4 + numbers);
                isBad(checks, "called, instruction " + first + " with " + numbers + " numbers", desk);
                checks.same("called: both frames stay", desk.look(5), 2);
            }
        }
    }

    /** Behind a call the caller has what it had, but for the argument, and what came back. */
    private static void checkTheCallersStackComesBack(Checks checks) {
        SegmentDesk desk = Programs.desk(0, Programs.CONSTANT, 1, Programs.CONSTANT, 2, Programs.CONSTANT, 3,
                Programs.CALL, 1, 0, Programs.OUT, Programs.OUT, Programs.OUT, Programs.OUT);
        Programs.procedure(desk, 1, 1, Programs.CONSTANT, 50, Programs.CONSTANT, 51, Programs.RETURN);
        desk.start(0, 0, 4000);
        checks.same("steps", desk.step(2000), 4 + 3 + 4);
        checks.outs("51, 2 and 1", desk, 51, 2, 1);
        checks.same("a fourth is not there", desk.look(0), 3);
    }

    /** What is BAD asks for no room: though memory is full, nothing goes, and it is no OVERFLOW. */
    private static void checkBadBeforeRoom(Checks checks) {
        int[][] bads = {{2, 0}, {2, -1}, {13}, {10, 2, 0}, {10, 1, 1}, {10, 3, 0}, {10, 5, 0}};
        for (int[] bad : bads) {
            SegmentDesk desk = Programs.desk(0, Programs.CONSTANT, 1, Programs.CALL, 1, 0, Programs.CONSTANT, 2,
                    Programs.CONSTANT, 3);
            Programs.append(desk, 0, bad);
            Programs.procedure(desk, 1, 0, Programs.CONSTANT, 1, Programs.RETURN);
            Programs.append(desk, 2, 1, 3, 0);
            Programs.procedure(desk, 3, 7, Programs.END);
            int full = 12 + bad.length + 8 + 6 + 12;
            desk.start(0, 0, full);
            String what = "in full memory " + java.util.Arrays.toString(bad);
            checks.same(what, desk.step(6), 6);
            checks.same(what + ": it is full", desk.look(1), full);
            checks.same(what, desk.step(2000), 1);
            int taken = bad[0] == Programs.CALL ? 1 : 0;
            checks.looks(what, desk, 3, full - 4 * taken, full, 2, 0, 1, 0, 12, 3 - taken);
            checks.states(what, desk, 3, 1, 0, 0, 0);
        }
    }

    /** "a call that is BAD [..] has taken its argument", and what lies below it stays */
    private static void checkBadCallsTakeTheArgumentAlone(Checks checks) {
        int[][] calls = {{5, 0}, {-1, 0}, {2, 0}, {1, 1}, {1, -1}, {3, 0}};
        for (int[] call : calls) {
            for (int numbers = 1; numbers <= 3; numbers++) {
                SegmentDesk desk = at(numbers, 0, Programs.CALL, call[0], call[1]);
                Programs.append(desk, 2, 1, 3, 0);
                Programs.procedure(desk, 3, 7, Programs.END);
                desk.start(0, 6, 4000);
                checks.same("steps", desk.step(2000), numbers + 1);
                int held = 6 + 2 * numbers + 16 + 4 * numbers;
                String what = "a BAD call of " + call[0] + " " + call[1] + " with " + numbers + " numbers";
                checks.looks(what, desk, 3, held - 4, held, 1, 0, 1, 0, 3 + 2 * numbers, numbers - 1, 0, 0);
                checks.states(what, desk, 3, 0, 0, 0, 0);
            }
        }
    }

    /** A call that "ends outside its segment" is BAD as an instruction, and "takes nothing", be s GOOD or not. */
    private static void checkCutOffCallsTakeNothing(Checks checks) {
        for (int segment : new int[] {0, 1, 2, 5, -1}) {
            for (int length : new int[] {0, 80}) {
                isBad(checks, "a call of " + segment + " cut off", at(1, length, Programs.CALL, segment));
                isBad(checks, "a call cut off before " + segment, at(1, length, Programs.CALL));
            }
        }
    }

    /** "A run ends by [..] BAD [..]; then memory stays as it is." */
    private static void checkBadStaysBad(Checks checks) {
        SegmentDesk desk = at(2, 0, 13, Programs.OUT, Programs.END);
        isBad(checks, "13", desk);
        String before = Snapshot.of(desk);
        for (int n : new int[] {0, 1, 2000}) {
            checks.same("no step is left of " + n, desk.step(n), 0);
        }
        checks.sameText("it stays BAD", Snapshot.of(desk), before);
    }
}
