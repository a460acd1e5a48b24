import java.util.List;

/** An object in each of the situations that a call can find: no run, one that goes on, and each way to end. */
final class Situations {
    static final List<String> KINDS = List.of(
            "new", "no run", "begun", "in a call", "OVER by END", "OVER by RETURN", "BAD", "BAD call", "OVERFLOW",
            "OVERFLOW in a call", "begun BAD", "begun OVERFLOW");

    /** A segment with 80 bytes, and one that is not GOOD, but for a new object. */
    static final int FULL = 3;
    static final int NOT_GOOD = 2;

    private Situations() {
    }

    static boolean isRun(String kind) {
        return !kind.equals("new") && !kind.equals("no run");
    }

    static SegmentDesk make(String kind) {
        return switch (kind) {
            case "new" -> new SegmentDesk();
            case "no run" -> written(Programs.END);
            case "begun" -> ran(100, 0, Programs.CONSTANT, 7, Programs.END);
            case "in a call" -> ran(400, 5, Programs.CONSTANT, 7, Programs.OUT, Programs.CONSTANT, 8,
                    Programs.CALL, 1, 0, Programs.END);
            case "OVER by END" -> ran(100, 3, Programs.CONSTANT, 7, Programs.OUT, Programs.END);
            case "OVER by RETURN" -> ran(100, 2, Programs.GET, 0, Programs.RETURN);
            case "BAD" -> ran(100, 3, Programs.CONSTANT, 7, Programs.OUT, Programs.OUT);
            case "BAD call" -> ran(100, 2, Programs.CONSTANT, 7, Programs.CALL, NOT_GOOD, 0);
            case "OVERFLOW" -> ran(33, 2000, Programs.CONSTANT, 7, Programs.JUMP, -4);
            case "OVERFLOW in a call" -> ran(100, 2, Programs.CONSTANT, 7, Programs.CALL, FULL, 0);
            case "begun BAD" -> started(4, 4000);
            case "begun OVERFLOW" -> started(1, 10);
            default -> throw new IllegalArgumentException(kind);
        };
    }

    /** Segment 0 has the instructions, 1 goes on for ever, 4 has a procedure with 7 locals. */
    private static SegmentDesk written(int... instructions) {
        SegmentDesk desk = Programs.desk(2, instructions);
        Programs.procedure(desk, 1, 1, Programs.GET, 0, Programs.JUMP, -2);
        Programs.append(desk, NOT_GOOD, 1, 3, 0);
        Programs.procedure(desk, FULL, 0, Programs.END);
        Programs.padTo(desk, FULL, 80);
        Programs.procedure(desk, 4, 7, Programs.END);
        return desk;
    }

    private static SegmentDesk ran(int limit, int steps, int... instructions) {
        SegmentDesk desk = written(instructions);
        desk.start(0, 6, limit);
        desk.step(steps);
        return desk;
    }

    private static SegmentDesk started(int segment, int limit) {
        SegmentDesk desk = written(Programs.END);
        desk.start(segment, 6, limit);
        return desk;
    }
}
