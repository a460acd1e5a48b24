import java.util.LinkedHashMap;
import java.util.Map;
import java.util.function.Consumer;

/** "Of several exceptions that hold the first one listed is thrown; what throws changes nothing." */
public final class RefusedCallsTest {
    private static final int MIN = Integer.MIN_VALUE;
    private static final int MAX = Integer.MAX_VALUE;

    public static void main(String[] args) {
        Checks checks = new Checks("RefusedCallsTest");
        for (String kind : Situations.KINDS) {
            checkRefused(checks, kind, IllegalArgumentException.class, wrongArguments());
            checkRefused(checks, kind, IndexOutOfBoundsException.class, wrongIndices());
            if (Situations.isRun(kind)) {
                checkRefused(checks, kind, IllegalArgumentException.class, wrongSteps());
            } else {
                checkRefused(checks, kind, IllegalStateException.class, wrongSteps());
                checkRefused(checks, kind, IllegalStateException.class, allowedSteps());
            }
            checkRefused(checks, kind, IllegalStateException.class, startsOfOneNotGood());
            checkFullSegment(checks, kind);
        }
        checkTheRunGoesOn(checks);
        checkWhatNeverThrows(checks);
        checks.finish();
    }

    private static void checkRefused(Checks checks, String kind, Class<? extends RuntimeException> due,
            Map<String, Consumer<SegmentDesk>> calls) {
        calls.forEach((call, body) -> {
            SegmentDesk desk = Situations.make(kind);
            String before = Snapshot.of(desk);
            checks.throwsA(due, kind + ": " + call, () -> body.accept(desk));
            checks.sameText(kind + ": after " + call, Snapshot.of(desk), before);
        });
    }

    /** A wrong segment or limit is listed before a segment that is not GOOD, or full, or none. */
    private static Map<String, Consumer<SegmentDesk>> wrongArguments() {
        Map<String, Consumer<SegmentDesk>> calls = new LinkedHashMap<>();
        for (int segment : new int[] {-1, 5, MIN, MAX}) {
            calls.put("code(" + segment + ")", desk -> desk.code(segment, (byte) 1));
            calls.put("clear(" + segment + ")", desk -> desk.clear(segment));
            calls.put("good(" + segment + ")", desk -> desk.good(segment));
            calls.put("state(" + segment + ")", desk -> desk.state(segment));
            calls.put("start(" + segment + ", 0, 4000)", desk -> desk.start(segment, 0, 4000));
            calls.put("start(" + segment + ", 0, 4001)", desk -> desk.start(segment, 0, 4001));
        }
        for (int limit : new int[] {-1, 4001, MIN, MAX}) {
            calls.put("start(0, 0, " + limit + ")", desk -> desk.start(0, 0, limit));
            calls.put("start(2, 0, " + limit + ")", desk -> desk.start(Situations.NOT_GOOD, 0, limit));
        }
        for (int what : new int[] {-1, 11, MIN, MAX}) {
            calls.put("look(" + what + ")", desk -> desk.look(what));
        }
        return calls;
    }

    private static Map<String, Consumer<SegmentDesk>> wrongIndices() {
        Map<String, Consumer<SegmentDesk>> calls = new LinkedHashMap<>();
        for (int i : new int[] {-1, 39, 40, MIN, MAX}) {
            calls.put("out(" + i + ")", desk -> desk.out(i));
        }
        calls.put("out behind the last one", desk -> desk.out(desk.look(10)));
        return calls;
    }

    /** "there is no run" is listed before "n is not 0 .. 2000". */
    private static Map<String, Consumer<SegmentDesk>> wrongSteps() {
        return steps(-1, 2001, MIN, MAX);
    }

    private static Map<String, Consumer<SegmentDesk>> allowedSteps() {
        return steps(0, 1, 2000);
    }

    private static Map<String, Consumer<SegmentDesk>> steps(int... numbers) {
        Map<String, Consumer<SegmentDesk>> calls = new LinkedHashMap<>();
        for (int n : numbers) {
            calls.put("step(" + n + ")", desk -> desk.step(n));
        }
        return calls;
    }

    private static Map<String, Consumer<SegmentDesk>> startsOfOneNotGood() {
        Map<String, Consumer<SegmentDesk>> calls = new LinkedHashMap<>();
        for (int limit : new int[] {0, 4000}) {
            calls.put("start(2, 0, " + limit + ")", desk -> desk.start(Situations.NOT_GOOD, 0, limit));
        }
        return calls;
    }

    /** "IndexOutOfBoundsException: it has 80": the segment keeps its 80 bytes, and the run stays. */
    private static void checkFullSegment(Checks checks, String kind) {
        if (kind.equals("new")) {
            return;
        }
        SegmentDesk desk = Situations.make(kind);
        String before = Snapshot.of(desk);
        for (int time = 0; time < 2; time++) {
            checks.refusesIndex(kind + ": byte 81", () -> desk.code(Situations.FULL, (byte) 13));
        }
        checks.sameText(kind + ": after byte 81", Snapshot.of(desk), before);
        desk.start(Situations.FULL, 0, 88);
        checks.same(kind + ": its code is as it was", desk.step(2000), 1);
        checks.looks(kind + ": its code is as it was", desk, 2, 88, 88, 1, 0, 1, Situations.FULL, 3);
    }

    /** Refused calls of every kind between the steps leave no trace in what the run does. */
    private static void checkTheRunGoesOn(Checks checks) {
        SegmentDesk desk = Programs.desk(1, Programs.GET, 0, Programs.CALL, 1, 0, Programs.OUT, Programs.GET, 0,
                Programs.RETURN);
        Programs.procedure(desk, 1, 1, Programs.GET, 0, Programs.GET, 0, Programs.MULTIPLY, Programs.RETURN);
        desk.start(0, 9, 200);
        for (int step = 1; step <= 9; step++) {
            for (Consumer<SegmentDesk> call : wrongArguments().values()) {
                checks.refusesArgument("before step " + step, () -> call.accept(desk));
            }
            checks.refusesArgument("step(2001) before step " + step, () -> desk.step(2001));
            checks.refusesState("start before step " + step, () -> desk.start(2, 0, 100));
            checks.refusesIndex("out(1) before step " + step, () -> desk.out(1));
            checks.same("step " + step, desk.step(1), 1);
        }
        checks.outs("81 went out", desk, 81);
        checks.same("OVER", desk.look(0), 2);
        checks.same("the result", desk.look(9), 9);
    }

    /** local throws nothing, "0 if there is none"; a start with any x is allowed. */
    private static void checkWhatNeverThrows(Checks checks) {
        int[] numbers = {MIN, MIN + 1, -129, -128, -1, 6, 7, 499, 500, 501, 1000, 4000, MAX - 1, MAX};
        for (String kind : Situations.KINDS) {
            SegmentDesk desk = Situations.make(kind);
            for (int number : numbers) {
                checks.same(kind + ": local(" + number + ", 0)", desk.local(number, 0), 0);
                checks.same(kind + ": local(0, " + number + ")", desk.local(0, number), 0);
                checks.same(kind + ": local(n, n) of " + number, desk.local(number, number), 0);
            }
        }
        for (int x : new int[] {MIN, -1, 0, 1, MAX}) {
            SegmentDesk desk = Programs.started(x, 4000, 1, Programs.GET, 0, Programs.OUT, Programs.GET, 0,
                    Programs.RETURN);
            checks.same("the argument " + x, desk.local(0, 0), x);
            checks.same("steps", desk.step(4), 4);
            checks.outs("put out " + x, desk, x);
            checks.same("returned " + x, desk.look(9), x);
        }
    }
}
