/** Puts code on a desk's disk. */
final class Programs {
    static final int END = 0;
    static final int CONSTANT = 1;
    static final int GET = 2;
    static final int SET = 3;
    static final int ADD = 4;
    static final int SUBTRACT = 5;
    static final int LESS = 6;
    static final int MULTIPLY = 7;
    static final int JUMP_IF_ZERO = 8;
    static final int JUMP = 9;
    static final int CALL = 10;
    static final int RETURN = 11;
    static final int OUT = 12;

    /** How many steps pushInt is. */
    static final int PUSH_INT_STEPS = 21;

    private Programs() {
    }

    static void append(SegmentDesk desk, int segment, int... bytes) {
        for (int b : bytes) {
            desk.code(segment, (byte) b);
        }
    }

    /** A segment with one procedure. */
    static void procedure(SegmentDesk desk, int segment, int locals, int... instructions) {
        append(desk, segment, 1, 2, locals);
        append(desk, segment, instructions);
    }

    /** Bytes behind the code that are never reached make a segment longer, by one at least. */
    static void padTo(SegmentDesk desk, int segment, int length) {
        int have = 0;
        while (have < length) {
            have = desk.code(segment, (byte) 0);
        }
    }

    /** Pushes any int: a constant is a byte alone, so it is made of base 64 digits, in 32 bytes. */
    static void pushInt(SegmentDesk desk, int segment, int number) {
        append(desk, segment, CONSTANT, number >> 30);
        for (int shift = 24; shift >= 0; shift -= 6) {
            append(desk, segment, CONSTANT, 64, MULTIPLY, CONSTANT, number >> shift & 63, ADD);
        }
    }

    static SegmentDesk desk(int locals, int... instructions) {
        SegmentDesk desk = new SegmentDesk();
        procedure(desk, 0, locals, instructions);
        return desk;
    }

    static SegmentDesk started(int x, int limit, int locals, int... instructions) {
        SegmentDesk desk = desk(locals, instructions);
        desk.start(0, x, limit);
        return desk;
    }
}
