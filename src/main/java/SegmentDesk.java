/**
 * Runs code that lies in segments on a disk, in a memory of a few bytes. The document that this class keeps to
 * numbers its promises; README.md says how to use it.
 */
public final class SegmentDesk {
    private static final int SEGMENTS = 5;
    private static final int MOST_BYTES = 80;
    private static final int MOST_PROCEDURES = 4;
    private static final int MOST_LOCALS = 6;
    private static final int MOST_OUT = 40;
    private static final int MOST_LIMIT = 4000;
    private static final int MOST_STEPS = 2000;
    private static final int FRAME_BYTES = 8;
    private static final int NUMBER_BYTES = 4;

    private static final int NO_RUN = 0;
    private static final int GOES_ON = 1;
    private static final int OVER = 2;
    private static final int BAD = 3;
    private static final int OVERFLOW = 4;

    /** Stands for a segment, a place or a count that is not there. */
    private static final int NONE = -1;

    private final Disk disk;
    private final Run run;

    public SegmentDesk() {
        disk = new Disk();
        run = new Run(disk);
    }

    public int code(int segment, byte b) throws IllegalArgumentException, IndexOutOfBoundsException {
        requireSegment(segment);
        if (disk.lengthOf(segment) >= MOST_BYTES) {
            throw new IndexOutOfBoundsException("the segment is full");
        }
        run.forget();
        disk.append(segment, b);
        return disk.lengthOf(segment);
    }

    public void clear(int segment) throws IllegalArgumentException {
        requireSegment(segment);
        run.forget();
        disk.wipe(segment);
    }

    public int good(int segment) throws IllegalArgumentException {
        requireSegment(segment);
        return disk.proceduresOf(segment);
    }

    public void start(int segment, int x, int limit) throws IllegalArgumentException, IllegalStateException {
        requireSegment(segment);
        if (limit < 0 || limit > MOST_LIMIT) {
            throw new IllegalArgumentException("no such limit");
        }
        if (disk.proceduresOf(segment) == 0) {
            throw new IllegalStateException("the segment is not good");
        }
        run.begin(segment, x, limit);
    }

    public int step(int n) throws IllegalStateException, IllegalArgumentException {
        if (run.status() == NO_RUN) {
            throw new IllegalStateException("there is no run");
        }
        if (n < 0 || n > MOST_STEPS) {
            throw new IllegalArgumentException("no such number of steps");
        }
        int done = 0;
        while (done < n && run.status() == GOES_ON) {
            run.doInstruction();
            done++;
        }
        return done;
    }

    public int look(int what) throws IllegalArgumentException {
        if (what < 0 || what > Run.LAST_FACT) {
            throw new IllegalArgumentException("nothing to look at");
        }
        return run.fact(what);
    }

    public int state(int segment) throws IllegalArgumentException {
        requireSegment(segment);
        return run.stateOf(segment);
    }

    public int out(int i) throws IndexOutOfBoundsException {
        if (i < 0 || i >= run.outCount()) {
            throw new IndexOutOfBoundsException("no such number was put out");
        }
        return run.outAt(i);
    }

    public int local(int i, int n) {
        return run.localAt(i, n);
    }

    private static void requireSegment(int segment) {
        if (!isSegment(segment)) {
            throw new IllegalArgumentException("no such segment");
        }
    }

    private static boolean isSegment(int segment) {
        return segment >= 0 && segment < SEGMENTS;
    }

    /** The bytes of the segments, and where their procedures begin. */
    private static final class Disk {
        private final byte[][] bytes = new byte[SEGMENTS][MOST_BYTES];
        private final int[] lengths = new int[SEGMENTS];

        int lengthOf(int segment) {
            return segment >= 0 && segment < SEGMENTS ? lengths[segment] : 0;
        }

        void append(int segment, byte b) {
            int length = lengthOf(segment);
            if (isSegment(segment) && length < MOST_BYTES) {
                bytes[segment][length] = b;
                lengths[segment] = length + 1;
            }
        }

        void wipe(int segment) {
            if (isSegment(segment)) {
                lengths[segment] = 0;
            }
        }

        /** With sign; 0 outside the segment. */
        int byteAt(int segment, int at) {
            boolean isThere = segment >= 0 && segment < SEGMENTS && at >= 0 && at < lengths[segment];
            return isThere ? bytes[segment][at] : 0;
        }

        /** How many procedures a segment has, 0 if it is not GOOD or not there. */
        int proceduresOf(int segment) {
            int procedures = byteAt(segment, 0);
            if (procedures < 1 || procedures > MOST_PROCEDURES) {
                return 0;
            }
            for (int p = 1; p <= procedures; p++) {
                int begin = byteAt(segment, p) & 255;
                if (begin <= procedures || begin >= lengthOf(segment)) {
                    return 0;
                }
            }
            return procedures;
        }

        int beginOf(int segment, int procedure) {
            return byteAt(segment, procedure + 1) & 255;
        }

        /** How many locals a procedure has; NONE if to call it is BAD. */
        int localsOf(int segment, int procedure) {
            if (procedure < 0 || procedure >= proceduresOf(segment)) {
                return NONE;
            }
            int locals = byteAt(segment, beginOf(segment, procedure));
            return locals >= 0 && locals <= MOST_LOCALS ? locals : NONE;
        }
    }

    /** Counts what memory holds, and knows which segments are resident and which are active. */
    private static final class Memory {
        /** 0 for a segment that is not resident: none that can be called is empty. */
        private final int[] residentBytes = new int[SEGMENTS];
        private final int[] frameCounts = new int[SEGMENTS];
        private final int[] latestCalls = new int[SEGMENTS];
        private int calls;
        private int limit;
        private int held;
        private int most;
        private int loads;
        private int gone;

        void empty(int newLimit) {
            for (int s = 0; s < SEGMENTS; s++) {
                residentBytes[s] = 0;
                frameCounts[s] = 0;
                latestCalls[s] = 0;
            }
            calls = 0;
            limit = newLimit;
            held = 0;
            most = 0;
            loads = 0;
            gone = 0;
        }

        int held() {
            return held;
        }

        int most() {
            return most;
        }

        int loads() {
            return loads;
        }

        int gone() {
            return gone;
        }

        boolean isResident(int segment) {
            return isSegment(segment) && residentBytes[segment] > 0;
        }

        boolean isActive(int segment) {
            return isSegment(segment) && frameCounts[segment] > 0;
        }

        /** False if there is no room for the segment. */
        boolean bringIn(int segment, int bytes) {
            if (!isSegment(segment) || isResident(segment)) {
                return isSegment(segment);
            }
            if (!hold(bytes, segment)) {
                return false;
            }
            residentBytes[segment] = bytes;
            loads++;
            return true;
        }

        /** False if there is no room for the frame. */
        boolean addFrame(int segment, int bytes) {
            if (!isSegment(segment) || !hold(bytes, segment)) {
                return false;
            }
            frameCounts[segment]++;
            calls++;
            latestCalls[segment] = calls;
            return true;
        }

        void dropFrame(int segment, int bytes) {
            if (isActive(segment)) {
                frameCounts[segment]--;
                held -= bytes;
            }
        }

        void dropNumber() {
            held -= NUMBER_BYTES;
        }

        /** Makes room and fills it; the segment that is called stays, though it may have no frame yet. */
        boolean hold(int bytes, int called) {
            for (int went = 0; held + bytes > limit && went < SEGMENTS; went++) {
                int segment = leastLatelyCalled(called);
                if (segment == NONE) {
                    return false;
                }
                held -= residentBytes[segment];
                residentBytes[segment] = 0;
                gone++;
            }
            if (held + bytes > limit) {
                return false;
            }
            held += bytes;
            most = Math.max(most, held);
            return true;
        }

        /** Of the segments that may give way; NONE if there is none. */
        private int leastLatelyCalled(int called) {
            int found = NONE;
            for (int s = 0; s < SEGMENTS; s++) {
                boolean mayGo = s != called && residentBytes[s] > 0 && frameCounts[s] == 0;
                if (mayGo && (found == NONE || latestCalls[s] < latestCalls[found])) {
                    found = s;
                }
            }
            return found;
        }
    }

    /**
     * The frames, the first one lowest, their locals and stacks in one row of words. No limit lets in more frames or
     * words than the rows have, so the tests of an index against a row's length only keep that in sight.
     */
    private static final class Frames {
        private static final int MOST_FRAMES = MOST_LIMIT / FRAME_BYTES;
        private static final int MOST_WORDS = MOST_LIMIT / NUMBER_BYTES;

        private final int[] segments = new int[MOST_FRAMES];
        private final int[] places = new int[MOST_FRAMES];
        private final int[] localCounts = new int[MOST_FRAMES];
        /** Where a frame's locals begin among the words; its stack lies behind them. */
        private final int[] firstWords = new int[MOST_FRAMES];
        private final int[] words = new int[MOST_WORDS];
        private int count;
        private int usedWords;

        void empty() {
            count = 0;
            usedWords = 0;
        }

        int count() {
            return count;
        }

        int latestSegment() {
            return count > 0 ? segments[count - 1] : NONE;
        }

        int latestPlace() {
            return count > 0 ? places[count - 1] : NONE;
        }

        int latestLocals() {
            return count > 0 ? localCounts[count - 1] : 0;
        }

        /** How many numbers the latest frame's stack has. */
        int depth() {
            return count > 0 ? usedWords - firstWords[count - 1] - localCounts[count - 1] : 0;
        }

        void open(int segment, int place, int locals, int argument) {
            if (count >= MOST_FRAMES || locals < 0 || locals > MOST_WORDS - usedWords) {
                return;
            }
            segments[count] = segment;
            places[count] = place;
            localCounts[count] = locals;
            firstWords[count] = usedWords;
            for (int n = 0; n < locals; n++) {
                words[usedWords + n] = n == 0 ? argument : 0;
            }
            usedWords += locals;
            count++;
        }

        /** The latest frame goes, with its stack. */
        void close() {
            if (count > 0) {
                count--;
                usedWords = firstWords[count];
            }
        }

        /** Moves the latest frame. */
        void moveTo(int place) {
            if (count > 0) {
                places[count - 1] = place;
            }
        }

        /** Moves the frame that called the latest one. */
        void moveCallerTo(int place) {
            if (count > 1) {
                places[count - 2] = place;
            }
        }

        void push(int number) {
            if (usedWords < MOST_WORDS) {
                words[usedWords] = number;
                usedWords++;
            }
        }

        int pop() {
            if (depth() <= 0) {
                return 0;
            }
            usedWords--;
            return words[usedWords];
        }

        boolean hasLocal(int frame, int n) {
            return frame >= 0 && frame < count && n >= 0 && n < localCounts[frame];
        }

        int localAt(int frame, int n) {
            return hasLocal(frame, n) ? words[firstWords[frame] + n] : 0;
        }

        void setLocal(int frame, int n, int number) {
            if (hasLocal(frame, n)) {
                words[firstWords[frame] + n] = number;
            }
        }
    }

    /** The run that there is, if there is one, an instruction at a time. */
    private static final class Run {
        private static final int LAST_FACT = 10;

        private static final int END = 0;
        private static final int CONSTANT = 1;
        private static final int GET_LOCAL = 2;
        private static final int SET_LOCAL = 3;
        private static final int ADD = 4;
        private static final int SUBTRACT = 5;
        private static final int LESS = 6;
        private static final int MULTIPLY = 7;
        private static final int JUMP_IF_ZERO = 8;
        private static final int JUMP = 9;
        private static final int CALL = 10;
        private static final int RETURN = 11;
        private static final int PUT_OUT = 12;
        /** By the instruction's first byte: how many bytes it has, and how many numbers it takes. */
        private static final int[] LENGTHS = {1, 2, 2, 2, 1, 1, 1, 1, 2, 2, 3, 1, 1};
        private static final int[] TAKES = {0, 0, 0, 1, 2, 2, 2, 2, 1, 0, 1, 1, 1};

        private final Disk disk;
        private final Memory memory = new Memory();
        private final Frames frames = new Frames();
        private final int[] outs = new int[MOST_OUT];
        private int outCount;
        private int result;
        private int status;

        Run(Disk disk) {
            this.disk = disk;
        }

        void forget() {
            makeFresh(0, NO_RUN);
        }

        void begin(int segment, int x, int limit) {
            makeFresh(limit, GOES_ON);
            enter(segment, 0, x);
        }

        private void makeFresh(int limit, int newStatus) {
            memory.empty(limit);
            frames.empty();
            outCount = 0;
            result = 0;
            status = newStatus;
        }

        int status() {
            return status;
        }

        int outCount() {
            return outCount;
        }

        int outAt(int i) {
            return i >= 0 && i < outCount ? outs[i] : 0;
        }

        int localAt(int frame, int n) {
            return frames.localAt(frame, n);
        }

        int stateOf(int segment) {
            return (memory.isResident(segment) ? 1 : 0) + (memory.isActive(segment) ? 2 : 0);
        }

        int fact(int what) {
            switch (what) {
                case 0: return status;
                case 1: return memory.held();
                case 2: return memory.most();
                case 3: return memory.loads();
                case 4: return memory.gone();
                case 5: return frames.count();
                case 6: return frames.latestSegment();
                case 7: return frames.latestPlace();
                case 8: return frames.depth();
                case 9: return result;
                default: return outCount;
            }
        }

        /** An instruction that ends the run leaves the frame where it is. */
        void doInstruction() {
            int segment = frames.latestSegment();
            int at = frames.latestPlace();
            int kind = kindAt(segment, at);
            if (kind == NONE || frames.depth() < TAKES[kind]) {
                status = BAD;
                return;
            }
            int operand = disk.byteAt(segment, at + 1);
            int behind = at + LENGTHS[kind];
            switch (kind) {
                case END:
                    status = OVER;
                    break;
                case CONSTANT:
                    pushAndMove(operand, behind);
                    break;
                case GET_LOCAL:
                    getLocal(operand, behind);
                    break;
                case SET_LOCAL:
                    setLocal(operand, behind);
                    break;
                case JUMP_IF_ZERO:
                    frames.moveTo(take() == 0 ? behind + operand : behind);
                    break;
                case JUMP:
                    frames.moveTo(behind + operand);
                    break;
                case CALL:
                    callFrom(behind, operand, disk.byteAt(segment, at + 2));
                    break;
                case RETURN:
                    giveBack();
                    break;
                case PUT_OUT:
                    putOut(behind);
                    break;
                default:
                    calculate(kind, behind);
                    break;
            }
        }

        /** The first byte of the instruction that begins there; NONE if none lies whole in the segment. */
        private int kindAt(int segment, int at) {
            int length = disk.lengthOf(segment);
            if (at < 0 || at >= length) {
                return NONE;
            }
            int kind = disk.byteAt(segment, at);
            if (kind < 0 || kind >= LENGTHS.length || at + LENGTHS[kind] > length) {
                return NONE;
            }
            return kind;
        }

        private int take() {
            memory.dropNumber();
            return frames.pop();
        }

        private boolean push(int number) {
            if (!memory.hold(NUMBER_BYTES, NONE)) {
                status = OVERFLOW;
                return false;
            }
            frames.push(number);
            return true;
        }

        private void pushAndMove(int number, int place) {
            if (push(number)) {
                frames.moveTo(place);
            }
        }

        private void getLocal(int n, int behind) {
            int frame = frames.count() - 1;
            if (!frames.hasLocal(frame, n)) {
                status = BAD;
                return;
            }
            pushAndMove(frames.localAt(frame, n), behind);
        }

        private void setLocal(int n, int behind) {
            int frame = frames.count() - 1;
            if (!frames.hasLocal(frame, n)) {
                status = BAD;
                return;
            }
            frames.setLocal(frame, n, take());
            frames.moveTo(behind);
        }

        private void calculate(int kind, int behind) {
            int b = take();
            int a = take();
            pushAndMove(valueOf(kind, a, b), behind);
        }

        private static int valueOf(int kind, int a, int b) {
            switch (kind) {
                case ADD: return a + b;
                case SUBTRACT: return a - b;
                case LESS: return a < b ? 1 : 0;
                case MULTIPLY: return a * b;
                default: return 0;
            }
        }

        private void putOut(int behind) {
            if (outCount >= MOST_OUT) {
                status = BAD;
                return;
            }
            outs[outCount] = take();
            outCount++;
            frames.moveTo(behind);
        }

        private void callFrom(int behind, int segment, int procedure) {
            if (enter(segment, procedure, take())) {
                frames.moveCallerTo(behind);
            }
        }

        /** False if the call has ended the run; no frame was made then. */
        private boolean enter(int segment, int procedure, int argument) {
            int locals = disk.localsOf(segment, procedure);
            if (locals == NONE) {
                status = BAD;
                return false;
            }
            boolean fits = memory.bringIn(segment, disk.lengthOf(segment))
                    && memory.addFrame(segment, frameBytes(locals));
            if (!fits) {
                status = OVERFLOW;
                return false;
            }
            // The procedure's first byte tells its locals; the instructions follow.
            frames.open(segment, disk.beginOf(segment, procedure) + 1, locals, argument);
            return true;
        }

        private void giveBack() {
            int number = take();
            if (frames.count() == 1) {
                result = number;
                status = OVER;
                return;
            }
            int bytes = frameBytes(frames.latestLocals()) + NUMBER_BYTES * frames.depth();
            memory.dropFrame(frames.latestSegment(), bytes);
            frames.close();
            push(number);
        }

        private static int frameBytes(int locals) {
            return FRAME_BYTES + NUMBER_BYTES * locals;
        }
    }
}
