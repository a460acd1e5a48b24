import java.util.ArrayList;
import java.util.List;
import java.util.Random;

/**
 * "with any limit that is not too small for what is active, the output is the same": random code, with the least
 * limit that is not too small, with the one below it and with others above it.
 */
public final class SameOutputTest {
    private static final int PROGRAMS = 1500;
    private static final int STEPS = 2000;
    private static final int ROOMY = 4000;

    private final Checks checks;
    private final int program;
    private final Random random;
    private final List<List<Integer>> segments = new ArrayList<>();
    private final PlainModel model = new PlainModel();
    private final int x;
    private int steps;

    private SameOutputTest(Checks checks, int program) {
        this.checks = checks;
        this.program = program;
        this.random = new Random(program);
        this.x = random.nextInt(6);
        RandomCode code = new RandomCode(random);
        for (int s = 0; s < 5; s++) {
            List<Integer> bytes = code.segment(s);
            segments.add(bytes.subList(0, Math.min(80, bytes.size())));
        }
    }

    public static void main(String[] args) {
        Checks checks = new Checks("SameOutputTest");
        int runsWithGone = 0;
        for (int program = 0; program < PROGRAMS; program++) {
            runsWithGone += new SameOutputTest(checks, program).checkLimits() ? 1 : 0;
        }
        checks.same("in many runs segments went", runsWithGone > PROGRAMS / 4 ? 1 : 0, 1);
        checks.finish();
    }

    /** Whether a run came in which a segment went. */
    private boolean checkLimits() {
        for (int s = 0; s < 5; s++) {
            for (int b : segments.get(s)) {
                model.code(s, (byte) b);
            }
        }
        if (model.good(0) == 0) {
            return false;
        }
        model.start(0, x, ROOMY);
        int least = needOfWholeRun();
        if (model.look(0) == 4 || least == 0) {
            return false;
        }
        checkTooSmall(least - 1);
        boolean went = checkEnough(least) > 0;
        for (int more = 1; more <= 80; more += 1 + random.nextInt(20)) {
            checkEnough(least + more);
        }
        checkEnough(least + random.nextInt(ROOMY - least));
        return went;
    }

    private int needOfWholeRun() {
        int need = needNow();
        while (steps < STEPS && model.look(0) == 1) {
            model.step(1);
            steps++;
            need = Math.max(need, needNow());
        }
        return need;
    }

    /** All that memory holds but the segments that could go. */
    private int needNow() {
        int need = model.look(1);
        for (int s = 0; s < 5; s++) {
            need -= model.state(s) == 1 ? segments.get(s).size() : 0;
        }
        return need;
    }

    private SegmentDesk run(int limit) {
        SegmentDesk desk = new SegmentDesk();
        for (int s = 0; s < 5; s++) {
            for (int b : segments.get(s)) {
                desk.code(s, (byte) b);
            }
        }
        desk.start(0, x, limit);
        return desk;
    }

    private void checkTooSmall(int limit) {
        SegmentDesk desk = run(limit);
        desk.step(STEPS);
        String what = "program " + program + " with " + limit;
        checks.same(what + " is OVERFLOW", desk.look(0), 4);
        checkOuts(what, desk, Math.min(desk.look(10), model.look(10)));
    }

    private int checkEnough(int limit) {
        SegmentDesk desk = run(limit);
        String what = "program " + program + " with " + limit;
        checks.same(what + ": steps", desk.step(STEPS), steps);
        for (int fact : new int[] {0, 5, 6, 7, 8, 9, 10}) {
            checks.same(what + ": look " + fact, desk.look(fact), model.look(fact));
        }
        checkOuts(what, desk, model.look(10));
        checks.same(what + ": within the limit", desk.look(2) <= limit ? 1 : 0, 1);
        return desk.look(4);
    }

    private void checkOuts(String what, SegmentDesk desk, int count) {
        for (int i = 0; i < count; i++) {
            checks.same(what + ": out " + i, desk.out(i), model.out(i));
        }
    }
}
