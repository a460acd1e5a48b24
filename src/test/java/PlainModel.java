import java.util.ArrayList;
import java.util.LinkedHashSet;
import java.util.List;
import java.util.Set;

/**
 * A second reading of the document, as unlike the program as its words allow: memory is counted anew from what it
 * holds each time, and BAD and OVERFLOW are thrown inside.
 */
final class PlainModel {
    private static final class Frame {
        final int segment;
        int place;
        final int[] locals;
        final List<Integer> stack = new ArrayList<>();

        Frame(int segment, int place, int locals) {
            this.segment = segment;
            this.place = place;
            this.locals = new int[locals];
        }
    }

    @SuppressWarnings("serial")
    private static final class Ended extends RuntimeException {
        final int how;

        Ended(int how) {
            this.how = how;
        }
    }

    private final List<List<Byte>> disk = new ArrayList<>();
    private int status;
    private int limit;
    private int most;
    private int loads;
    private int gone;
    private int result;
    private final List<Frame> frames = new ArrayList<>();
    /** Resident, the one least lately called first. */
    private final Set<Integer> resident = new LinkedHashSet<>();
    private final List<Integer> outs = new ArrayList<>();

    PlainModel() {
        for (int s = 0; s < 5; s++) {
            disk.add(new ArrayList<>());
        }
    }

    private List<Byte> segment(int s) {
        if (s < 0 || s > 4) {
            throw new IllegalArgumentException();
        }
        return disk.get(s);
    }

    private void noRun() {
        status = 0;
        limit = 0;
        most = 0;
        loads = 0;
        gone = 0;
        result = 0;
        frames.clear();
        resident.clear();
        outs.clear();
    }

    int code(int s, byte b) {
        List<Byte> bytes = segment(s);
        if (bytes.size() == 80) {
            throw new IndexOutOfBoundsException();
        }
        noRun();
        bytes.add(b);
        return bytes.size();
    }

    void clear(int s) {
        segment(s).clear();
        noRun();
    }

    int good(int s) {
        List<Byte> bytes = segment(s);
        if (bytes.isEmpty() || bytes.get(0) < 1 || bytes.get(0) > 4) {
            return 0;
        }
        int p = bytes.get(0);
        for (int i = 1; i <= p; i++) {
            if (i >= bytes.size()) {
                return 0;
            }
            int begin = Byte.toUnsignedInt(bytes.get(i));
            if (begin <= p || begin >= bytes.size()) {
                return 0;
            }
        }
        return p;
    }

    void start(int s, int x, int newLimit) {
        segment(s);
        if (newLimit < 0 || newLimit > 4000) {
            throw new IllegalArgumentException();
        }
        if (good(s) == 0) {
            throw new IllegalStateException();
        }
        noRun();
        status = 1;
        limit = newLimit;
        try {
            call(s, 0, x);
        } catch (Ended e) {
            status = e.how;
        }
    }

    int step(int n) {
        if (status == 0) {
            throw new IllegalStateException();
        }
        if (n < 0 || n > 2000) {
            throw new IllegalArgumentException();
        }
        for (int done = 0; done < n; done++) {
            if (status != 1) {
                return done;
            }
            try {
                instruction();
            } catch (Ended e) {
                status = e.how;
            }
        }
        return n;
    }

    private int held() {
        int bytes = 0;
        for (int s : resident) {
            bytes += disk.get(s).size();
        }
        for (Frame frame : frames) {
            bytes += 8 + 4 * frame.locals.length + 4 * frame.stack.size();
        }
        return bytes;
    }

    private boolean active(int s) {
        for (Frame frame : frames) {
            if (frame.segment == s) {
                return true;
            }
        }
        return false;
    }

    private void room(int bytes, int called) {
        while (held() + bytes > limit) {
            Integer goes = null;
            for (int s : resident) {
                if (goes == null && s != called && !active(s)) {
                    goes = s;
                }
            }
            if (goes == null) {
                throw new Ended(4);
            }
            resident.remove(goes);
            gone++;
        }
    }

    private void call(int s, int p, int x) {
        if (s < 0 || s > 4 || p < 0 || p >= good(s)) {
            throw new Ended(3);
        }
        int begin = Byte.toUnsignedInt(disk.get(s).get(p + 1));
        int locals = disk.get(s).get(begin);
        if (locals < 0 || locals > 6) {
            throw new Ended(3);
        }
        if (!resident.contains(s)) {
            room(disk.get(s).size(), s);
            loads++;
        }
        resident.remove(s);
        resident.add(s);
        most = Math.max(most, held());
        room(8 + 4 * locals, s);
        Frame frame = new Frame(s, begin + 1, locals);
        if (locals > 0) {
            frame.locals[0] = x;
        }
        frames.add(frame);
        most = Math.max(most, held());
    }

    private Frame latest() {
        return frames.get(frames.size() - 1);
    }

    private void push(int number) {
        room(4, -1);
        latest().stack.add(number);
        most = Math.max(most, held());
    }

    private int take() {
        List<Integer> stack = latest().stack;
        return stack.remove(stack.size() - 1);
    }

    private void need(boolean holds) {
        if (!holds) {
            throw new Ended(3);
        }
    }

    private int operand(int i) {
        List<Byte> bytes = disk.get(latest().segment);
        int at = latest().place + i;
        need(at >= 0 && at < bytes.size());
        return bytes.get(at);
    }

    private void instruction() {
        Frame frame = latest();
        int have = frame.stack.size();
        switch (operand(0)) {
            case 0 -> throw new Ended(2);
            case 1 -> {
                push(operand(1));
                frame.place += 2;
            }
            case 2 -> {
                int n = operand(1);
                need(n >= 0 && n < frame.locals.length);
                push(frame.locals[n]);
                frame.place += 2;
            }
            case 3 -> {
                int n = operand(1);
                need(n >= 0 && n < frame.locals.length && have >= 1);
                frame.locals[n] = take();
                frame.place += 2;
            }
            case 4, 5, 6, 7 -> {
                need(have >= 2);
                int kind = operand(0);
                int b = take();
                int a = take();
                push(kind == 4 ? a + b : kind == 5 ? a - b : kind == 7 ? a * b : a < b ? 1 : 0);
                frame.place += 1;
            }
            case 8 -> {
                int d = operand(1);
                need(have >= 1);
                frame.place += take() == 0 ? 2 + d : 2;
            }
            case 9 -> frame.place += 2 + operand(1);
            case 10 -> {
                int s = operand(1);
                int p = operand(2);
                need(have >= 1);
                call(s, p, take());
                frame.place += 3;
            }
            case 11 -> {
                need(have >= 1);
                int number = take();
                if (frames.size() == 1) {
                    result = number;
                    throw new Ended(2);
                }
                frames.remove(frames.size() - 1);
                push(number);
            }
            case 12 -> {
                need(have >= 1 && outs.size() < 40);
                outs.add(take());
                frame.place += 1;
            }
            default -> throw new Ended(3);
        }
    }

    int look(int what) {
        boolean none = frames.isEmpty();
        return switch (what) {
            case 0 -> status;
            case 1 -> held();
            case 2 -> most;
            case 3 -> loads;
            case 4 -> gone;
            case 5 -> frames.size();
            case 6 -> none ? -1 : latest().segment;
            case 7 -> none ? -1 : latest().place;
            case 8 -> none ? 0 : latest().stack.size();
            case 9 -> result;
            case 10 -> outs.size();
            default -> throw new IllegalArgumentException();
        };
    }

    int state(int s) {
        segment(s);
        return (resident.contains(s) ? 1 : 0) | (active(s) ? 2 : 0);
    }

    int out(int i) {
        if (i < 0 || i >= outs.size()) {
            throw new IndexOutOfBoundsException();
        }
        return outs.get(i);
    }

    int local(int i, int n) {
        if (i < 0 || i >= frames.size() || n < 0 || n >= frames.get(i).locals.length) {
            return 0;
        }
        return frames.get(i).locals[n];
    }
}
