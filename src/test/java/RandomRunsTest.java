import java.util.Random;
import java.util.concurrent.Callable;

/** All promises: random disks and calls, the program beside PlainModel, the same ones each time. */
public final class RandomRunsTest {
    private static final int RUNS = 8000;
    private static final int MOST_CALLS = 512;
    private static final int COMPARE_ALL_CALLS = 24;

    private final Checks checks;
    private final Random random;
    private final SegmentDesk desk = new SegmentDesk();
    private final PlainModel model = new PlainModel();
    private final String name;
    private int calls;
    private int mostGone;
    private final int[] mostHeld = {300, 300, 300, 300, 300};
    private int startedSegment;

    private RandomRunsTest(Checks checks, int run) {
        this.checks = checks;
        this.random = new Random(run);
        this.name = "run " + run + ": ";
    }

    public static void main(String[] args) {
        Checks checks = new Checks("RandomRunsTest");
        int[] ends = new int[5];
        int runsWithGone = 0;
        for (int run = 0; run < RUNS; run++) {
            RandomRunsTest test = new RandomRunsTest(checks, run);
            test.writeDisk();
            // What comes behind the last test of this, compareAll twice, must fit in too.
            while (test.calls < MOST_CALLS - 2 * COMPARE_ALL_CALLS) {
                test.callSomething();
            }
            test.compareAll();
            ends[test.model.look(0)]++;
            runsWithGone += test.mostGone > 2 ? 1 : 0;
        }
        for (int end = 1; end < ends.length; end++) {
            checks.same("runs that end as " + end + " are many", ends[end] > RUNS / 50 ? 1 : 0, 1);
        }
        checks.same("in many runs more than two segments went", runsWithGone > RUNS / 20 ? 1 : 0, 1);
        checks.finish();
    }

    /** An int, or for each exception of the document a number that is none; for any other one the least. */
    private static long answer(Callable<Integer> call) {
        try {
            return call.call();
        } catch (IllegalArgumentException e) {
            return Long.MAX_VALUE - 1;
        } catch (IllegalStateException e) {
            return Long.MAX_VALUE - 2;
        } catch (IndexOutOfBoundsException e) {
            return e.getClass() == IndexOutOfBoundsException.class ? Long.MAX_VALUE - 3 : Long.MIN_VALUE;
        } catch (Exception e) {
            return Long.MIN_VALUE;
        }
    }

    private void compare(String what, Callable<Integer> ofDesk, Callable<Integer> ofModel) {
        calls++;
        checks.same(name + what, answer(ofDesk), answer(ofModel));
    }

    private void append(int segment, int b) {
        compare("code", () -> desk.code(segment, (byte) b), () -> model.code(segment, (byte) b));
    }

    private void writeDisk() {
        RandomCode code = new RandomCode(random);
        for (int s = 0; s < 5; s++) {
            if (random.nextInt(25) != 0) {
                for (int b : code.segment(s)) {
                    append(s, b);
                }
            }
        }
    }

    /** Often a little less than what the runs have held: then segments go, and the run may still end well. */
    private int drawLimit(int segment) {
        switch (random.nextInt(10)) {
            case 0: return random.nextInt(4100) - 50;
            case 1: return 50 + random.nextInt(200);
            case 2: case 3: return 4000;
            default: return Math.max(0, (segment >= 0 && segment < 5 ? mostHeld[segment] : 0) - random.nextInt(60));
        }
    }

    private void callSomething() {
        int drawn = random.nextInt(100);
        if (model.look(0) != 1 && drawn < 70 || drawn < 4) {
            startSome();
        } else if (drawn < 60) {
            stepSome();
        } else if (drawn < 62) {
            writeSome();
        } else if (drawn < 80) {
            compareAll();
        } else {
            askSome();
        }
    }

    private void startSome() {
        int s = random.nextInt(30) == 0 ? random.nextInt(9) - 2 : random.nextInt(1 + random.nextInt(5));
        startedSegment = s >= 0 && s < 5 ? s : startedSegment;
        int x = random.nextInt(3) == 0 ? random.nextInt() : random.nextInt(6);
        int limit = drawLimit(s);
        compare("start", () -> {
            desk.start(s, x, limit);
            return 0;
        }, () -> {
            model.start(s, x, limit);
            return 0;
        });
    }

    private void stepSome() {
        int drawn = random.nextInt(20);
        int n = drawn == 0 ? random.nextInt(2100) - 50 : drawn < 6 ? 2000 : random.nextInt(12);
        compare("step " + n, () -> desk.step(n), () -> model.step(n));
        mostGone = Math.max(mostGone, model.look(4));
        if (model.look(0) == 2) {
            mostHeld[startedSegment] = model.look(2);
        }
    }

    private void writeSome() {
        int s = random.nextInt(7) - 1;
        if (random.nextInt(6) == 0) {
            compare("clear " + s, () -> {
                desk.clear(s);
                return 0;
            }, () -> {
                model.clear(s);
                return 0;
            });
        } else {
            append(s, random.nextInt(14));
        }
    }

    private void askSome() {
        int a = random.nextInt(16) - 2;
        int b = random.nextInt(8) - 1;
        compare("look " + a, () -> desk.look(a), () -> model.look(a));
        compare("state " + b, () -> desk.state(b), () -> model.state(b));
        compare("good " + b, () -> desk.good(b), () -> model.good(b));
        compare("out " + a, () -> desk.out(a), () -> model.out(a));
        compare("local " + a + " " + b, () -> desk.local(a, b), () -> model.local(a, b));
    }

    private void compareAll() {
        for (int what = 0; what <= 10; what++) {
            int w = what;
            compare("look " + w, () -> desk.look(w), () -> model.look(w));
        }
        for (int segment = 0; segment < 5; segment++) {
            int s = segment;
            compare("state " + s, () -> desk.state(s), () -> model.state(s));
        }
        int frame = model.look(5) - 1;
        for (int local = 0; local < 6; local++) {
            int n = local;
            compare("local " + frame + " " + n, () -> desk.local(frame, n), () -> model.local(frame, n));
        }
        int last = model.look(10) - 1;
        compare("out " + last, () -> desk.out(last), () -> model.out(last));
    }
}
