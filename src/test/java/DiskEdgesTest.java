/** The edges of what the document says of the disk: its segments, their bytes, GOOD, and where procedures begin. */
public final class DiskEdgesTest {
    private static final int[] NO_SEGMENTS = {
        -1, 5, 6, 255, 256, 260, -128, -252, Integer.MIN_VALUE, Integer.MIN_VALUE + 4, Integer.MAX_VALUE};

    public static void main(String[] args) {
        Checks checks = new Checks("DiskEdgesTest");
        checkEverySegmentIsThere(checks);
        checkNoOtherSegmentIsThere(checks);
        checkEmptySegments(checks);
        checkFullSegments(checks);
        checkEveryByteIsKept(checks);
        checkEveryFirstByte(checks);
        checkEveryBegin(checks);
        checkRowsTooShortForTheirBegins(checks);
        checkGoodComesAndGoesWithBytes(checks);
        checkTheLastByteMayBeAProcedure(checks);
        checkClearAtBothEnds(checks);
        checkOldBytesAreNotRun(checks);
        checkWritingEndsARunOfEveryKind(checks);
        checks.finish();
    }

    /** "The DISK has SEGMENTS 0 .. 4" */
    private static void checkEverySegmentIsThere(Checks checks) {
        for (int segment = 0; segment <= 4; segment++) {
            SegmentDesk desk = new SegmentDesk();
            Programs.procedure(desk, segment, 1, Programs.END);
            desk.start(segment, 5, 16);
            for (int other = 0; other <= 4; other++) {
                boolean same = other == segment;
                checks.same(segment + " alone is GOOD: good(" + other + ")", desk.good(other), same ? 1 : 0);
                checks.same(segment + " alone runs: state(" + other + ")", desk.state(other), same ? 3 : 0);
            }
            checks.same("the latest frame's segment", desk.look(6), segment);
            desk.clear(segment);
            checks.same("cleared: good(" + segment + ")", desk.good(segment), 0);
            checks.same("cleared: the first byte again", desk.code(segment, (byte) 1), 1);
        }
    }

    /** "IllegalArgumentException: no segment" (code, clear, good, start, state), with a run and without one */
    private static void checkNoOtherSegmentIsThere(Checks checks) {
        SegmentDesk still = Programs.desk(1, Programs.END);
        SegmentDesk runs = Programs.started(5, 100, 1, Programs.END);
        for (SegmentDesk desk : new SegmentDesk[] {still, runs}) {
            for (int segment : NO_SEGMENTS) {
                checks.refusesArgument("code(" + segment + ")", () -> desk.code(segment, (byte) 0));
                checks.refusesArgument("clear(" + segment + ")", () -> desk.clear(segment));
                checks.refusesArgument("good(" + segment + ")", () -> desk.good(segment));
                checks.refusesArgument("start(" + segment + ")", () -> desk.start(segment, 0, 100));
                checks.refusesArgument("state(" + segment + ")", () -> desk.state(segment));
            }
            checks.same("good(0) is as it was", desk.good(0), 1);
        }
        checks.noRun("no run is as it was", still);
        checks.looks("the run is as it was", runs, 1, 16, 16, 1, 0, 1, 0, 3, 0, 0, 0);
    }

    /** "each a row of up to 80 bytes [..], none or more" */
    private static void checkEmptySegments(Checks checks) {
        SegmentDesk desk = new SegmentDesk();
        for (int segment = 0; segment <= 4; segment++) {
            int s = segment;
            checks.same("no bytes: good(" + s + ")", desk.good(s), 0);
            checks.refusesState("no bytes: start(" + s + ")", () -> desk.start(s, 0, 4000));
        }
    }

    /** "each a row of up to 80 bytes"; "IndexOutOfBoundsException: it has 80." All five are full at once here. */
    private static void checkFullSegments(Checks checks) {
        SegmentDesk desk = new SegmentDesk();
        for (int segment = 0; segment <= 4; segment++) {
            int s = segment;
            Programs.append(desk, s, 1, 76, 1, s);
            for (int length = 5; length <= 76; length++) {
                checks.same("byte " + length + " of " + s, desk.code(s, (byte) 13), length);
            }
            Programs.append(desk, s, 0, Programs.CONSTANT, 100 + s);
            checks.same("byte 80 of " + s, desk.code(s, (byte) Programs.RETURN), 80);
            checks.refusesIndex("byte 81 of " + s, () -> desk.code(s, (byte) Programs.END));
        }
        for (int segment = 0; segment <= 4; segment++) {
            checks.same("good(" + segment + ") of a full one", desk.good(segment), 1);
            desk.start(segment, 0, 80 + 8 + 4);
            checks.same("its last bytes are run", desk.step(2000), 2);
            checks.looks("all of " + segment, desk, 2, 88, 92, 1, 0, 1, segment, 79, 0, 100 + segment);
        }
    }

    /** "bytes (-128 .. 127 [..])" */
    private static void checkEveryByteIsKept(Checks checks) {
        for (int b = -128; b <= 127; b++) {
            SegmentDesk desk = Programs.started(0, 100, 0, Programs.CONSTANT, b, Programs.RETURN);
            desk.step(2);
            checks.same("the byte " + b, desk.look(9), b);
        }
    }

    /** "a segment is GOOD if its byte 0, P, is 1 .. 4": every byte there, in front of begins that are right for all. */
    private static void checkEveryFirstByte(Checks checks) {
        for (int p = -128; p <= 127; p++) {
            SegmentDesk desk = new SegmentDesk();
            desk.code(2, (byte) p);
            while (desk.code(2, (byte) 79) < 80) {
                continue;
            }
            checks.same("good with byte 0 " + p, desk.good(2), p >= 1 && p <= 4 ? p : 0);
        }
    }

    /** "bytes 1 .. P, without sign, are each above P and below its length": every byte there, short rows and long. */
    private static void checkEveryBegin(Checks checks) {
        for (int p = 1; p <= 4; p++) {
            for (int length : new int[] {p + 2, p + 3, 79, 80}) {
                for (int at = 1; at <= p; at++) {
                    checkEveryBeginAt(checks, p, length, at);
                }
            }
        }
    }

    private static void checkEveryBeginAt(Checks checks, int p, int length, int at) {
        for (int begin = 0; begin <= 255; begin++) {
            SegmentDesk desk = new SegmentDesk();
            desk.code(3, (byte) p);
            for (int i = 1; i < length; i++) {
                desk.code(3, (byte) (i == at ? begin : i <= p ? p + 1 : 0));
            }
            int due = begin > p && begin < length ? p : 0;
            checks.same("byte " + at + " is " + begin + " of " + length + " bytes, P " + p, desk.good(3), due);
        }
    }

    /** "bytes 1 .. P [..] are each [..] below its length": none can be if the row ends among them, or just behind. */
    private static void checkRowsTooShortForTheirBegins(Checks checks) {
        for (int p = 1; p <= 4; p++) {
            SegmentDesk desk = new SegmentDesk();
            checks.same("byte 0 is " + p, desk.code(1, (byte) p), 1);
            for (int length = 1; length <= p + 1; length++) {
                checks.same("P " + p + ", " + length + " bytes", desk.good(1), 0);
                checks.refusesState("P " + p + ", " + length + " bytes: start", () -> desk.start(1, 0, 4000));
                desk.code(1, (byte) (p + 1));
            }
            checks.same("P " + p + " and one byte behind", desk.good(1), p);
        }
    }

    /** "How many procedures a segment has; 0 if it is not GOOD": the 80th byte makes it so, clear ends it. */
    private static void checkGoodComesAndGoesWithBytes(Checks checks) {
        SegmentDesk desk = new SegmentDesk();
        Programs.append(desk, 0, 2, 3, 79);
        for (int length = 3; length <= 79; length++) {
            checks.same(length + " bytes, a begin at 79", desk.good(0), 0);
            desk.code(0, (byte) 0);
        }
        checks.same("80 bytes, a begin at 79", desk.good(0), 2);
        desk.clear(0);
        checks.same("no bytes again", desk.good(0), 0);
    }

    /** "there PROCEDURES 0 .. P - 1 BEGIN": the last byte tells its locals, and no instruction lies behind it. */
    private static void checkTheLastByteMayBeAProcedure(Checks checks) {
        SegmentDesk desk = new SegmentDesk();
        Programs.append(desk, 0, 1, 79);
        Programs.padTo(desk, 0, 79);
        desk.code(0, (byte) 6);
        desk.start(0, 5, 80 + 32);
        checks.looks("it is called", desk, 1, 112, 112, 1, 0, 1, 0, 80, 0);
        checks.same("a step", desk.step(2000), 1);
        checks.looks("BAD: its instruction begins outside", desk, 3, 112, 112, 1, 0, 1, 0, 80, 0);
        SegmentDesk least = Programs.started(5, 11, 0);
        checks.looks("the shortest segment that is GOOD", least, 1, 11, 11, 1, 0, 1, 0, 3, 0);
    }

    /** "A segment has no bytes": one that has 80, and one that has none, and the others keep theirs. */
    private static void checkClearAtBothEnds(Checks checks) {
        SegmentDesk desk = Programs.desk(0, Programs.CONSTANT, 9, Programs.RETURN);
        Programs.procedure(desk, 4, 0, Programs.END);
        Programs.padTo(desk, 4, 80);
        desk.clear(4);
        checks.same("80 bytes are gone", desk.good(4), 0);
        desk.clear(4);
        checks.same("none are gone", desk.good(4), 0);
        for (int length = 1; length <= 80; length++) {
            checks.same("80 bytes go there again", desk.code(4, (byte) 0), length);
        }
        checks.refusesIndex("and no more", () -> desk.code(4, (byte) 0));
        desk.start(0, 0, 100);
        desk.step(2);
        checks.same("another segment's code", desk.look(9), 9);
    }

    /** "A segment has no bytes": what lay there is neither a procedure's begin nor an instruction's end. */
    private static void checkOldBytesAreNotRun(Checks checks) {
        SegmentDesk desk = Programs.desk(0, Programs.CONSTANT, 9, Programs.RETURN);
        desk.clear(0);
        Programs.append(desk, 0, 1, 2);
        checks.same("the old byte 2 is no procedure", desk.good(0), 0);
        Programs.append(desk, 0, 0, Programs.CONSTANT);
        desk.start(0, 0, 100);
        checks.same("the old byte 4 is no operand", desk.step(2000), 1);
        checks.looks("the old byte 4 is no operand", desk, 3, 12, 12, 1, 0, 1, 0, 3, 0);
        Programs.append(desk, 0, 7);
        desk.start(0, 0, 100);
        checks.same("the old byte 5 is no instruction", desk.step(2000), 2);
        checks.looks("the old byte 5 is no instruction", desk, 3, 17, 17, 1, 0, 1, 0, 5, 1);
    }

    /** "there is no run then" (code, clear), whatever the run was, and whichever the segment. */
    private static void checkWritingEndsARunOfEveryKind(Checks checks) {
        for (String kind : Situations.KINDS) {
            for (int segment = 0; segment < 5; segment++) {
                SegmentDesk cleared = Situations.make(kind);
                cleared.clear(segment);
                checks.noRun(kind + ", clear(" + segment + ")", cleared);
                if (segment != Situations.FULL) {
                    SegmentDesk written = Situations.make(kind);
                    written.code(segment, (byte) 0);
                    checks.noRun(kind + ", code(" + segment + ")", written);
                }
            }
        }
    }
}
