import java.util.List;

/** The edges of what the document says of a run: how it begins, its steps, its ends, and what can be asked of it. */
public final class RunEdgesTest {
    private static final int MIN = Integer.MIN_VALUE;
    private static final int MAX = Integer.MAX_VALUE;
    private static final List<String> ENDED = List.of(
            "OVER by END", "OVER by RETURN", "BAD", "BAD call", "OVERFLOW", "OVERFLOW in a call", "begun BAD",
            "begun OVERFLOW");

    public static void main(String[] args) {
        Checks checks = new Checks("RunEdgesTest");
        checkLimitsOfStart(checks);
        checkStartInPlaceOfAnyRun(checks);
        checkNumbersOfSteps(checks);
        checkTheLastStepIsIncluded(checks);
        checkStepsOneByOne(checks);
        checkAnEndedRunStays(checks);
        checkHowEachRunHasEnded(checks);
        checkWhereAnEndedRunIs(checks);
        checkEveryFactWithoutARun(checks);
        checkNoFrame(checks);
        checkWhatToLookAt(checks);
        checkOutAtBothEnds(checks);
        checkLocalAtBothEnds(checks);
        checkTheDeepestRun(checks);
        checkAnyLimitGivesTheSameOutput(checks);
        checks.finish();
    }

    /** "IllegalArgumentException: [..] limit is not 0 .. 4000" */
    private static void checkLimitsOfStart(Checks checks) {
        SegmentDesk desk = Programs.desk(0, Programs.END);
        for (int limit : new int[] {MIN, -4000, -1, 4001, 4096, 65536, MAX}) {
            checks.refusesArgument("start with limit " + limit, () -> desk.start(0, 0, limit));
            checks.noRun("after start with limit " + limit, desk);
        }
        for (int limit : new int[] {0, 1, 3, 4, 11, 12, 3999, 4000}) {
            desk.start(0, 0, limit);
            checks.same("start with limit " + limit, desk.look(0), limit < 12 ? 4 : 1);
        }
    }

    /** "Begins a run, in place of another one, with nothing resident": nothing is left of any run before. */
    private static void checkStartInPlaceOfAnyRun(Checks checks) {
        SegmentDesk fresh = Situations.make("no run");
        fresh.start(1, -5, 20);
        String due = Snapshot.of(fresh);
        fresh.step(1);
        String behind = Snapshot.of(fresh);
        for (String kind : Situations.KINDS) {
            if (Situations.isRun(kind)) {
                SegmentDesk desk = Situations.make(kind);
                desk.start(1, -5, 20);
                checks.sameText("start in place of one " + kind, Snapshot.of(desk), due);
                desk.step(1);
                checks.sameText("a step in place of one " + kind, Snapshot.of(desk), behind);
            }
        }
    }

    /** "Up to n steps"; "IllegalArgumentException: n is not 0 .. 2000" */
    private static void checkNumbersOfSteps(Checks checks) {
        SegmentDesk desk = Programs.started(0, 100, 1, Programs.GET, 0, Programs.CONSTANT, 1, Programs.ADD,
                Programs.SET, 0, Programs.JUMP, -9);
        int all = 0;
        for (int n : new int[] {0, 1, 2, 1998, 1999, 2000, 0, 2000}) {
            checks.same("step(" + n + ")", desk.step(n), n);
            all += n;
            checks.same("times round behind " + all, desk.local(0, 0), (all + 1) / 5);
        }
        for (int n : new int[] {MIN, -2000, -1, 2001, 4000, 65536, MAX}) {
            checks.refusesArgument("step(" + n + ")", () -> desk.step(n));
        }
        checks.same("times round are as they were", desk.local(0, 0), (all + 1) / 5);
    }

    /** "how many were done, the last one included": the run ends by step 2000, just before it, and behind it. */
    private static void checkTheLastStepIsIncluded(Checks checks) {
        for (int before = 4; before <= 6; before++) {
            // Counts down from 286, 7 steps a round, and ends by the third step of the round behind: 2005 steps.
            SegmentDesk desk = Programs.started(286, 100, 1, Programs.GET, 0, Programs.JUMP_IF_ZERO, 9,
                    Programs.GET, 0, Programs.CONSTANT, 1, Programs.SUBTRACT, Programs.SET, 0, Programs.JUMP, -13,
                    Programs.END);
            desk.step(before);
            int left = 2005 - before;
            checks.same(left + " steps are left", desk.step(2000), Math.min(left, 2000));
            checks.same(left + " steps were left: look(0)", desk.look(0), left <= 2000 ? 2 : 1);
            checks.same(left + " steps were left: the others", desk.step(2000), Math.max(left - 2000, 0));
            checks.same(left + " steps were left: OVER", desk.look(0), 2);
        }
        for (int length = 1; length <= 3; length++) {
            for (int n = 0; n <= 4; n++) {
                SegmentDesk desk = Programs.desk(0);
                for (int i = 1; i < length; i++) {
                    Programs.append(desk, 0, Programs.CONSTANT, 1);
                }
                desk.code(0, (byte) Programs.END);
                desk.start(0, 0, 100);
                checks.same("step(" + n + ") of " + length, desk.step(n), Math.min(n, length));
                checks.same("step(" + n + ") of " + length + ": look(0)", desk.look(0), n >= length ? 2 : 1);
                checks.same("the rest of " + length, desk.step(2000), Math.max(0, length - n));
            }
        }
    }

    /** "A STEP is one instruction": n at once, and one by one, come to the same. */
    private static void checkStepsOneByOne(Checks checks) {
        for (int steps = 0; steps <= 24; steps++) {
            SegmentDesk once = factorial(4);
            SegmentDesk single = factorial(4);
            checks.same("steps at once", once.step(steps), steps);
            for (int i = 0; i < steps; i++) {
                checks.same("one by one", single.step(1), 1);
                checks.same("none in between", single.step(0), 0);
            }
            checks.sameText(steps + " steps", Snapshot.of(single), Snapshot.of(once));
        }
    }

    /** Segment 1 calls itself, and 0 puts out what comes back. */
    private static SegmentDesk factorial(int x) {
        SegmentDesk desk = Programs.desk(1, Programs.GET, 0, Programs.CALL, 1, 0, Programs.OUT, Programs.END);
        Programs.procedure(desk, 1, 1, Programs.GET, 0, Programs.JUMP_IF_ZERO, 12, Programs.GET, 0, Programs.GET, 0,
                Programs.CONSTANT, 1, Programs.SUBTRACT, Programs.CALL, 1, 0, Programs.MULTIPLY, Programs.RETURN,
                Programs.CONSTANT, 1, Programs.RETURN);
        desk.start(0, x, 4000);
        return desk;
    }

    /** "A run ends by END or the last RETURN (OVER), BAD, or OVERFLOW; then memory stays as it is." */
    private static void checkAnEndedRunStays(Checks checks) {
        for (String kind : ENDED) {
            SegmentDesk desk = Situations.make(kind);
            String before = Snapshot.of(desk);
            for (int n : new int[] {0, 1, 2000}) {
                checks.same(kind + ": step(" + n + ")", desk.step(n), 0);
            }
            checks.sameText(kind + " stays", Snapshot.of(desk), before);
        }
    }

    /** "what 0: 0 no run, 1 it goes on, 2 OVER, 3 BAD, 4 OVERFLOW" */
    private static void checkHowEachRunHasEnded(Checks checks) {
        int[] due = {0, 0, 1, 1, 2, 2, 3, 3, 4, 4, 3, 4};
        for (int i = 0; i < due.length; i++) {
            String kind = Situations.KINDS.get(i);
            checks.same(kind + ": look(0)", Situations.make(kind).look(0), due[i]);
        }
    }

    /** "Where a frame is, is [..] (of a run that has ended the one by which it did)" */
    private static void checkWhereAnEndedRunIs(Checks checks) {
        where(checks, "END", 2, 5, Programs.CONSTANT, 1, Programs.END);
        where(checks, "RETURN", 2, 5, Programs.CONSTANT, 1, Programs.RETURN);
        where(checks, "BAD", 3, 5, Programs.CONSTANT, 1, 13);
        where(checks, "a call that is BAD", 3, 5, Programs.CONSTANT, 1, Programs.CALL, 4, 0);
        where(checks, "a call without room", 4, 5, Programs.CONSTANT, 1, Programs.CALL, 1, 0);
        where(checks, "a number without room", 4, 3, Programs.CONSTANT, 1, Programs.JUMP, -4);
        where(checks, "a local without room", 4, 3, Programs.GET, 0, Programs.JUMP, -4);
        where(checks, "the last OUT", 3, 5, Programs.CONSTANT, 1, Programs.OUT, Programs.JUMP, -5);
        where(checks, "a jump behind the end", 3, 100, Programs.JUMP, 95);
        where(checks, "a jump before byte 0", 3, -1, Programs.JUMP, -6);
        where(checks, "a jump two before byte 0", 3, -2, Programs.JUMP, -7);
    }

    private static void where(Checks checks, String what, int end, int place, int... instructions) {
        SegmentDesk desk = Programs.desk(1, instructions);
        Programs.procedure(desk, 1, 0, Programs.END);
        Programs.append(desk, 1, new int[76]);
        desk.start(0, 0, 50);
        desk.step(2000);
        checks.same(what + ": look(0)", desk.look(0), end);
        checks.same(what + ": where", desk.look(7), place);
        checks.same(what + ": the segment", desk.look(6), 0);
    }

    /** "(All 0 if there is no run, 6 and 7 -1.)"; "0 if there is no run" (state); "or there is no run" (out) */
    private static void checkEveryFactWithoutARun(Checks checks) {
        checks.noRun("new", Situations.make("new"));
        checks.noRun("no run", Situations.make("no run"));
    }

    /** "(6, 7: -1 if there is no frame)": a run whose first call was BAD, or had no room, has none. */
    private static void checkNoFrame(Checks checks) {
        checks.looks("begun BAD", Situations.make("begun BAD"), 3, 0, 0, 0, 0, 0, -1, -1, 0, 0, 0);
        checks.looks("begun OVERFLOW", Situations.make("begun OVERFLOW"), 4, 7, 7, 1, 0, 0, -1, -1, 0, 0, 0);
        checks.states("begun OVERFLOW", Situations.make("begun OVERFLOW"), 0, 1, 0, 0, 0);
        for (String kind : new String[] {"begun BAD", "begun OVERFLOW"}) {
            SegmentDesk desk = Situations.make(kind);
            checks.same(kind + ": local(0, 0)", desk.local(0, 0), 0);
            checks.outs(kind, desk);
        }
    }

    /** "IllegalArgumentException: another what." */
    private static void checkWhatToLookAt(Checks checks) {
        for (String kind : Situations.KINDS) {
            SegmentDesk desk = Situations.make(kind);
            for (int what : new int[] {MIN, -11, -1, 11, 12, 256, 266, MAX}) {
                checks.refusesArgument(kind + ": look(" + what + ")", () -> desk.look(what));
            }
            for (int what = 0; what <= 10; what++) {
                desk.look(what);
            }
        }
    }

    /** "Number i that was put OUT. IndexOutOfBoundsException: none": of none, one, and so on up to 40 */
    private static void checkOutAtBothEnds(Checks checks) {
        SegmentDesk desk = Programs.started(MAX, 100, 1, Programs.GET, 0, Programs.OUT, Programs.GET, 0,
                Programs.CONSTANT, 1, Programs.SUBTRACT, Programs.SET, 0, Programs.JUMP, -12);
        for (int count = 0; count <= 40; count++) {
            int behind = count;
            checks.same("put out", desk.look(10), count);
            checks.refusesIndex("out(" + count + ") of " + count, () -> desk.out(behind));
            checks.refusesIndex("out(-1) of " + count, () -> desk.out(-1));
            if (count > 0) {
                checks.same("out(0) of " + count, desk.out(0), MAX);
                checks.same("the last of " + count, desk.out(count - 1), MAX - count + 1);
            }
            desk.step(count == 0 ? 2 : 7);
        }
        checks.same("the 41st was BAD", desk.look(0), 3);
        checks.refusesIndex("out(40)", () -> desk.out(40));
        checks.refusesIndex("out of the least int", () -> desk.out(MIN));
        checks.refusesIndex("out of the greatest int", () -> desk.out(MAX));
        desk.clear(4);
        checks.refusesIndex("out(0) without a run", () -> desk.out(0));
    }

    /** "Local n of frame i (0 the first); 0 if there is none." */
    private static void checkLocalAtBothEnds(Checks checks) {
        for (int locals = 0; locals <= 6; locals++) {
            SegmentDesk desk = Programs.desk(locals);
            for (int n = 0; n < locals; n++) {
                Programs.append(desk, 0, Programs.CONSTANT, -7 - n, Programs.SET, n);
            }
            Programs.append(desk, 0, Programs.CONSTANT, 99, Programs.CONSTANT, 98, Programs.CALL, 1, 0);
            Programs.procedure(desk, 1, 2, Programs.CONSTANT, 97, Programs.END);
            desk.start(0, 5, 4000);
            desk.step(2 * locals + 4);
            for (int n = -2; n <= 9; n++) {
                String what = locals + " locals: local ";
                checks.same(what + n + " of frame 0", desk.local(0, n), n >= 0 && n < locals ? -7 - n : 0);
                checks.same(what + n + " of frame 1", desk.local(1, n), n == 0 ? 98 : 0);
                checks.same(what + n + " of frame 2", desk.local(2, n), 0);
                checks.same(what + n + " of frame -1", desk.local(-1, n), 0);
            }
        }
    }

    /** As many frames as 4000 bytes hold, each with its own local; "Local n of frame i" of the first and the last. */
    private static void checkTheDeepestRun(Checks checks) {
        for (int locals = 0; locals <= 6; locals++) {
            SegmentDesk desk = locals == 0
                    ? Programs.started(0, 4000, 0, Programs.CONSTANT, 1, Programs.CALL, 0, 0)
                    : Programs.started(0, 4000, locals, Programs.GET, 0, Programs.CONSTANT, 1, Programs.ADD,
                            Programs.CALL, 0, 0);
            desk.step(2000);
            int length = locals == 0 ? 8 : 11;
            int frames = (4000 - length) / (8 + 4 * locals);
            checks.same(locals + " locals: OVERFLOW", desk.look(0), 4);
            checks.same(locals + " locals: frames", desk.look(5), frames);
            for (int i : new int[] {0, 1, frames - 2, frames - 1}) {
                checks.same(locals + " locals: frame " + i, desk.local(i, 0), locals == 0 ? 0 : i);
            }
            checks.same(locals + " locals: behind the last", desk.local(frames, 0), 0);
        }
    }

    /** "with any limit that is not too small for what is active, the output is the same" */
    private static void checkAnyLimitGivesTheSameOutput(Checks checks) {
        int[] due = {3, 6, 9, 12, 2, 4, 6, 8, 1, 2, 3, 4};
        // The segment and the frame of 0, and of 4, the longest of the others, with two numbers.
        int least = 41 + 12 + 37 + 12 + 8;
        for (int limit = 0; limit <= 4000; limit += limit < 300 ? 1 : 37) {
            SegmentDesk desk = callingAround();
            desk.start(0, 3, limit);
            desk.step(2000);
            checks.same("limit " + limit, desk.look(0), limit < least ? 4 : 2);
            int outs = desk.look(10);
            checks.outs("limit " + limit, desk, java.util.Arrays.copyOf(due, limit < least ? Math.min(outs, 3) : 12));
        }
        SegmentDesk all = callingAround();
        all.start(0, 3, 4000);
        checks.same("all steps", all.step(2000), 3 * (2 + 4 * 7 + 5) + 3);
        checks.same("nothing goes if there is room", all.look(4), 0);
    }

    /** Counts its argument down to 0, and puts out once, twice, three and four times it, made by 1, 2, 3 and 4. */
    private static SegmentDesk callingAround() {
        SegmentDesk desk = Programs.desk(1, Programs.GET, 0, Programs.JUMP_IF_ZERO, 33);
        for (int times = 1; times <= 4; times++) {
            Programs.append(desk, 0, Programs.GET, 0, Programs.CALL, times, 0, Programs.OUT);
            Programs.procedure(desk, times, 1, Programs.GET, 0, Programs.CONSTANT, times, Programs.MULTIPLY,
                    Programs.RETURN);
            Programs.append(desk, times, new int[7 * times]);
        }
        Programs.append(desk, 0, Programs.GET, 0, Programs.CONSTANT, 1, Programs.SUBTRACT, Programs.SET, 0,
                Programs.JUMP, -37, Programs.END);
        return desk;
    }
}
