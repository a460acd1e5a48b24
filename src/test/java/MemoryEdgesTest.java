/** The edges of what the document says of memory: each limit next to the one at which something else happens. */
public final class MemoryEdgesTest {
    private static final int[][] ORDERS = {{1, 2, 3}, {1, 3, 2}, {2, 1, 3}, {2, 3, 1}, {3, 1, 2}, {3, 2, 1}};

    public static void main(String[] args) {
        Checks checks = new Checks("MemoryEdgesTest");
        checkWhatAStartHolds(checks);
        checkFullMemory(checks);
        checkRoomInACall(checks);
        checkOnlyAsManyGoAsMust(checks);
        checkAllFourGoForAFrame(checks);
        checkLatestByAnyProcedure(checks);
        checkLatestIsNotTheReturn(checks);
        checkCalledAgainWhileActive(checks);
        checkTakenBeforePushed(checks);
        checkTakenBeforePushedByReturn(checks);
        checkFramesOfOneSegmentGoOneByOne(checks);
        checkLoads(checks);
        checks.finish();
    }

    /** A procedure that answers 1, in 6 bytes or more; it has no local unless told. */
    private static void answering(SegmentDesk desk, int segment, int locals, int length) {
        Programs.procedure(desk, segment, locals, Programs.CONSTANT, 1, Programs.RETURN);
        Programs.append(desk, segment, new int[length - 6]);
    }

    /** A call with 1, whose answer is dropped into local 0: 7 bytes, and with answering 5 steps. */
    private static void addCall(SegmentDesk desk, int from, int segment, int procedure) {
        Programs.append(desk, from, Programs.CONSTANT, 1, Programs.CALL, segment, procedure, Programs.SET, 0);
    }

    /** "It holds the RESIDENT segments (their lengths), the FRAMES [..] (8 + 4 * their locals, each)" */
    private static void checkWhatAStartHolds(Checks checks) {
        for (int length : new int[] {3, 4, 79, 80}) {
            for (int locals = 0; locals <= 6; locals++) {
                SegmentDesk desk = Programs.desk(locals, new int[length - 3]);
                int all = length + 8 + 4 * locals;
                String what = length + " bytes, " + locals + " locals";
                desk.start(0, 0, all);
                checks.looks(what, desk, 1, all, all, 1, 0, 1, 0, 3, 0, 0, 0);
                desk.start(0, 0, all - 1);
                checks.looks(what + ", a byte less", desk, 4, length, length, 1, 0, 0, -1, -1, 0, 0, 0);
                checks.states(what + ", a byte less", desk, 1, 0, 0, 0, 0);
                desk.start(0, 0, length);
                checks.looks(what + ", no frame", desk, 4, length, length, 1, 0, 0, -1, -1, 0, 0, 0);
                desk.start(0, 0, length - 1);
                checks.looks(what + ", no segment", desk, 4, 0, 0, 0, 0, 0, -1, -1, 0, 0, 0);
                checks.states(what + ", no segment", desk, 0, 0, 0, 0, 0);
                desk.start(0, 0, 0);
                checks.looks(what + ", limit 0", desk, 4, 0, 0, 0, 0, 0, -1, -1, 0, 0, 0);
            }
        }
    }

    /** "the numbers on their stacks (4 each)"; "TO PUSH: room for 4": all of the limit, and not a byte more */
    private static void checkFullMemory(Checks checks) {
        for (int limit : new int[] {3996, 3997, 3998, 3999, 4000}) {
            SegmentDesk desk = Programs.desk(0, Programs.CONSTANT, 1, Programs.JUMP, -4, Programs.END);
            desk.start(0, 0, limit);
            int numbers = (limit - 16) / 4;
            checks.same("steps to limit " + limit, desk.step(2000), 2 * numbers + 1);
            int held = 16 + 4 * numbers;
            checks.looks("limit " + limit, desk, 4, held, held, 1, 0, 1, 0, 3, numbers, 0, 0);
        }
    }

    /** A segment of so many bytes stays resident, then one of so many bytes and locals is called. */
    private static void checkRoomInACall(Checks checks) {
        for (int first : new int[] {6, 23, 80}) {
            for (int second : new int[] {6, 31, 80}) {
                for (int locals = 0; locals <= 6; locals++) {
                    roomInACall(checks, first, second, locals);
                }
            }
        }
    }

    /**
     * "ROOM for n bytes: as long as all that is held and n are more than the limit, the resident segment that is not
     * active [..] goes; if there is none, the run ends by OVERFLOW": at every limit from what the run needs up to
     * where nothing has to go, for the segment, its frame, and a number.
     */
    private static void roomInACall(Checks checks, int first, int second, int locals) {
        // The caller, its frame and the first answer; the second argument is taken before room is asked for.
        int base = 13 + 8 + 4;
        int[] needs = {second, 8 + 4 * locals, 4};
        int least = base + first + 8;
        int enough = Math.max(least, base + first + needs[0] + needs[1] + needs[2]);
        for (int limit = least; limit <= enough + 1; limit++) {
            SegmentDesk desk = callingTwo(first, second, locals);
            desk.start(0, 0, limit);
            String what = first + " and " + second + " bytes, " + locals + " locals, limit " + limit;
            checks.same(what + ": steps before", desk.step(5), 5);
            int held = base + first;
            int most = base + first + 8;
            int got = 0;
            int gone = 0;
            while (got < 3) {
                if (held + needs[got] > limit && gone == 0) {
                    held -= first;
                    gone = 1;
                }
                if (held + needs[got] > limit) {
                    break;
                }
                held += needs[got];
                most = Math.max(most, held);
                got++;
            }
            desk.step(2);
            boolean called = got >= 2;
            checks.looks(what, desk, got == 3 ? 1 : 4, held, most, got >= 1 ? 3 : 2, gone, called ? 2 : 1,
                    called ? 2 : 0, got == 3 ? 5 : called ? 3 : 10, called ? got - 2 : 1);
            checks.states(what, desk, 3, 1 - gone, called ? 3 : got, 0, 0);
        }
    }

    private static SegmentDesk callingTwo(int first, int second, int locals) {
        SegmentDesk desk = Programs.desk(0, Programs.CONSTANT, 1, Programs.CALL, 1, 0, Programs.CONSTANT, 2,
                Programs.CALL, 2, 0);
        answering(desk, 1, 0, first);
        answering(desk, 2, locals, second);
        return desk;
    }

    /**
     * "as long as [..], the resident segment that is not active and was called least lately goes; if there is none, the
     * run ends by OVERFLOW (those that went stay away)": none, one, two or all three, in the order of their calls.
     */
    private static void checkOnlyAsManyGoAsMust(Checks checks) {
        int[] lengths = {0, 10, 21, 33, 80};
        int caller = 3 + 4 * 7 + 12;
        for (int[] order : ORDERS) {
            // With less the three are not there at once; from caller + 80 on segment 4 fits, if all of them go.
            for (int limit = caller + 64 + 12; limit <= caller + 64 + 80 + 8; limit++) {
                goingFor4(checks, order, lengths, caller, limit);
            }
        }
    }

    private static void goingFor4(Checks checks, int[] order, int[] lengths, int caller, int limit) {
        SegmentDesk desk = Programs.desk(1);
        for (int segment : order) {
            addCall(desk, 0, segment, 0);
            answering(desk, segment, 0, lengths[segment]);
        }
        addCall(desk, 0, 4, 0);
        answering(desk, 4, 0, lengths[4]);
        desk.start(0, 0, limit);
        String what = "order " + java.util.Arrays.toString(order) + ", limit " + limit;
        checks.same(what + ": steps before", desk.step(16), 16);
        checks.same(what + ": nothing went before", desk.look(4), 0);
        desk.step(1);
        int[] needs = {80, 8};
        int got = 0;
        int gone = 0;
        int held = caller + 64;
        while (got < 2) {
            while (held + needs[got] > limit && gone < 3) {
                held -= lengths[order[gone]];
                gone++;
            }
            if (held + needs[got] > limit) {
                break;
            }
            held += needs[got];
            got++;
        }
        checks.same(what + ": look(0)", desk.look(0), got == 2 ? 1 : 4);
        checks.same(what + ": held", desk.look(1), held);
        checks.same(what + ": gone", desk.look(4), gone);
        for (int i = 0; i < 3; i++) {
            checks.same(what + ": state(" + order[i] + ")", desk.state(order[i]), i < gone ? 0 : 1);
        }
        checks.same(what + ": state(4)", desk.state(4), got == 2 ? 3 : got);
    }

    /** "when segments, frames or numbers need room": all that are not active go for one frame, or are not enough. */
    private static void checkAllFourGoForAFrame(Checks checks) {
        for (int numbers = 0; numbers <= 2; numbers++) {
            for (int free = 12; free <= 45; free++) {
                goingForAFrame(checks, numbers, free);
            }
        }
    }

    /** Segment 0 calls 1 to 4, 6 bytes each, and then itself, for a frame of 32; so many numbers lie on its stack. */
    private static void goingForAFrame(Checks checks, int numbers, int free) {
        SegmentDesk desk = new SegmentDesk();
        Programs.append(desk, 0, 2, 4, 3, 6, 1);
        for (int segment = 1; segment <= 4; segment++) {
            addCall(desk, 0, segment, 0);
            answering(desk, segment, 0, 6);
        }
        for (int i = 0; i <= numbers; i++) {
            Programs.append(desk, 0, Programs.CONSTANT, 1);
        }
        Programs.append(desk, 0, Programs.CALL, 0, 1);
        int caller = 5 + 28 + 2 * numbers + 5 + 12;
        desk.start(0, 0, caller + 24 + free);
        String what = numbers + " numbers, " + free + " bytes free";
        checks.same(what + ": steps before", desk.step(21 + numbers), 21 + numbers);
        checks.looks(what + ": all are there", desk, 1, caller + 24 + 4 * numbers + 4, caller + 24 + 12, 5, 0);
        desk.step(1);
        int lacking = Math.max(0, 32 + 4 * numbers - free);
        boolean fits = lacking <= 24;
        int gone = fits ? (lacking + 5) / 6 : 4;
        int held = caller + 24 - 6 * gone + 4 * numbers + (fits ? 32 : 0);
        checks.looks(what, desk, fits ? 1 : 4, held, Math.max(caller + 24 + 12, held), 5, gone, fits ? 2 : 1, 0,
                fits ? 4 : 5 + 28 + 2 * numbers + 2, fits ? 0 : numbers);
        checks.states(what, desk, 3, gone > 0 ? 0 : 1, gone > 1 ? 0 : 1, gone > 2 ? 0 : 1, gone > 3 ? 0 : 1);
    }

    /** "A segment's latest call is the latest one of any of its procedures." */
    private static void checkLatestByAnyProcedure(Checks checks) {
        for (int again = 0; again <= 3; again++) {
            SegmentDesk desk = Programs.desk(1);
            Programs.append(desk, 1, 4, 5, 5, 5, 5, 0, Programs.CONSTANT, 1, Programs.RETURN);
            answering(desk, 2, 0, 9);
            answering(desk, 3, 0, 9);
            addCall(desk, 0, 1, 3 - again);
            addCall(desk, 0, 2, 0);
            addCall(desk, 0, 1, again);
            addCall(desk, 0, 3, 0);
            int caller = 3 + 28 + 12;
            desk.start(0, 0, caller + 18 + 12);
            checks.same("steps", desk.step(20), 20);
            checks.states("1 was called later, procedure " + again, desk, 3, 1, 0, 1, 0);
            checks.looks("2 went", desk, 1, caller + 18, caller + 30, 4, 1);
        }
    }

    /** "called least lately": 1 calls 2 and comes back later than it, but was called before it. */
    private static void checkLatestIsNotTheReturn(Checks checks) {
        SegmentDesk desk = Programs.desk(1);
        addCall(desk, 0, 1, 0);
        addCall(desk, 0, 3, 0);
        Programs.procedure(desk, 1, 0, Programs.CONSTANT, 1, Programs.CALL, 2, 0, Programs.RETURN);
        answering(desk, 2, 0, 9);
        answering(desk, 3, 0, 40);
        int caller = 3 + 14 + 12;
        desk.start(0, 0, caller + 9 + 40 + 12);
        checks.same("steps", desk.step(13), 13);
        checks.states("1 went, 2 stays", desk, 3, 0, 1, 1, 0);
        checks.same("one went", desk.look(4), 1);
    }

    /** A call from within makes a segment's latest call too: 1 calls 2, 2 calls 1 again, then 2 is the older one. */
    private static void checkCalledAgainWhileActive(Checks checks) {
        SegmentDesk desk = Programs.desk(1);
        addCall(desk, 0, 1, 0);
        addCall(desk, 0, 3, 0);
        Programs.append(desk, 1, 2, 3, 10, 0, Programs.CONSTANT, 1, Programs.CALL, 2, 0, Programs.RETURN);
        Programs.append(desk, 1, 0, Programs.CONSTANT, 1, Programs.RETURN);
        Programs.procedure(desk, 2, 0, Programs.CONSTANT, 1, Programs.CALL, 1, 1, Programs.RETURN);
        answering(desk, 3, 0, 40);
        int caller = 3 + 14 + 12;
        desk.start(0, 0, caller + 14 + 40 + 12);
        checks.same("steps", desk.step(10 + 5), 15);
        checks.states("2 went, 1 stays", desk, 3, 1, 0, 1, 0);
        checks.same("one went", desk.look(4), 1);
    }

    /** "What an instruction takes is out of memory before it pushes": in full memory nothing goes for it. */
    private static void checkTakenBeforePushed(Checks checks) {
        for (int kind = Programs.ADD; kind <= Programs.MULTIPLY; kind++) {
            SegmentDesk desk = Programs.desk(1);
            addCall(desk, 0, 1, 0);
            Programs.append(desk, 0, Programs.CONSTANT, 5, Programs.CONSTANT, 6, Programs.CONSTANT, 7, kind);
            answering(desk, 1, 0, 6);
            int full = 3 + 7 + 7 + 12 + 6 + 12;
            desk.start(0, 0, full);
            desk.step(8);
            checks.looks("full before " + kind, desk, 1, full, full, 2, 0, 1, 0, 16, 3);
            desk.step(1);
            checks.looks("behind " + kind, desk, 1, full - 4, full, 2, 0, 1, 0, 17, 2);
            checks.states("1 stays behind " + kind, desk, 3, 1, 0, 0, 0);
        }
    }

    /** The same of RETURN: its frame and its stack are out of memory before the caller's number is pushed. */
    private static void checkTakenBeforePushedByReturn(Checks checks) {
        SegmentDesk desk = Programs.desk(1);
        addCall(desk, 0, 1, 0);
        Programs.append(desk, 0, Programs.CONSTANT, 1, Programs.CALL, 2, 0);
        answering(desk, 1, 0, 6);
        answering(desk, 2, 0, 6);
        int full = 3 + 7 + 5 + 12 + 6 + 6 + 8 + 4;
        desk.start(0, 0, full);
        desk.step(8);
        checks.looks("full before RETURN", desk, 1, full, full, 3, 0, 2, 2, 5, 1);
        desk.step(1);
        checks.looks("behind RETURN", desk, 1, full - 8, full, 3, 0, 1, 0, 15, 1);
        checks.states("1 and 2 stay", desk, 3, 1, 1, 0, 0);
    }

    /** "ACTIVE is a segment with a frame": it is until the last of its frames goes, and can go then. */
    private static void checkFramesOfOneSegmentGoOneByOne(Checks checks) {
        SegmentDesk desk = Programs.desk(1);
        addCall(desk, 0, 1, 0);
        addCall(desk, 0, 2, 0);
        Programs.append(desk, 1, 2, 3, 10, 0, Programs.CONSTANT, 1, Programs.CALL, 1, 1, Programs.RETURN);
        Programs.append(desk, 1, 0, Programs.CONSTANT, 1, Programs.RETURN);
        answering(desk, 2, 0, 80);
        int caller = 3 + 14 + 12;
        desk.start(0, 0, caller + 80 + 12);
        int[] states = {0, 3, 3, 3, 3, 3, 1, 1, 1, 0};
        for (int step = 0; step < states.length; step++) {
            checks.same("step " + step, desk.step(1), 1);
            checks.same("state(1) behind step " + step, desk.state(1), states[step]);
        }
        checks.looks("1 went for 2", desk, 1, caller + 80 + 8, caller + 80 + 8, 3, 1);
    }

    /** "if the segment is not resident, room for its length, and it is (a LOAD)": one each time it went, else none */
    private static void checkLoads(Checks checks) {
        SegmentDesk desk = Programs.desk(1);
        for (int time = 0; time < 5; time++) {
            addCall(desk, 0, 1, 0);
            addCall(desk, 0, 2, 0);
        }
        answering(desk, 1, 0, 6);
        answering(desk, 2, 0, 6);
        int caller = 3 + 70 + 12;
        desk.start(0, 0, caller + 12 + 12);
        desk.step(50);
        checks.looks("both stay", desk, 1, caller + 12, caller + 24, 3, 0);
        desk.start(0, 0, caller + 6 + 12);
        desk.step(50);
        checks.looks("one stays", desk, 1, caller + 6, caller + 18, 11, 9);
    }
}
