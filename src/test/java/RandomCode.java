import java.util.ArrayList;
import java.util.List;
import java.util.Random;

/** Draws segments whose code mostly runs well, calls much and comes back; seldom a byte of it is spoilt. */
final class RandomCode {
    private final Random random;
    private final int[] procedures = new int[5];

    RandomCode(Random random) {
        this.random = random;
        for (int s = 0; s < 5; s++) {
            procedures[s] = 1 + random.nextInt(random.nextInt(3) == 0 ? 4 : 2);
        }
    }

    /** Now and then more than a segment can hold. */
    List<Integer> segment(int s) {
        int count = procedures[s];
        List<Integer> bytes = new ArrayList<>();
        bytes.add(count);
        for (int p = 0; p < count; p++) {
            bytes.add(0);
        }
        for (int p = 0; p < count; p++) {
            bytes.set(1 + p, bytes.size());
            bytes.addAll(procedure(s, p));
        }
        for (int pad = random.nextInt(12); pad > 0; pad--) {
            bytes.add(0);
        }
        if (random.nextInt(20) == 0) {
            bytes.set(random.nextInt(bytes.size()), random.nextInt(256) - 128);
        }
        return bytes;
    }

    private List<Integer> procedure(int s, int p) {
        int locals = random.nextInt(80) == 0 ? 7 : random.nextInt(random.nextInt(6) == 0 ? 7 : 4);
        List<Integer> bytes = new ArrayList<>();
        bytes.add(locals);
        int units = s == 0 && p == 0 ? 4 + random.nextInt(4) : 1 + random.nextInt(2);
        for (int i = 0; i < units; i++) {
            bytes.addAll(random.nextInt(8) == 0 ? perhaps(s, locals) : unit(s, locals));
        }
        addEnding(bytes, s, locals);
        return bytes;
    }

    /** In segment 0 often a jump back to the first instruction: then segments come and go. */
    private void addEnding(List<Integer> bytes, int s, int locals) {
        int drawn = random.nextInt(20);
        if (s == 0 && drawn < 8) {
            add(bytes, 9, -(bytes.size() + 1));
        } else if (drawn == 19) {
            add(bytes, 0);
        } else {
            addPush(bytes, locals);
            add(bytes, 11);
        }
    }

    /** A number, what is made of it, and most times where that goes. */
    private List<Integer> unit(int s, int locals) {
        List<Integer> bytes = new ArrayList<>();
        addPush(bytes, locals);
        if (s == 4 || random.nextInt(4) == 0) {
            addPush(bytes, locals);
            add(bytes, 4 + random.nextInt(4));
        } else {
            addCall(bytes, s);
        }
        int drawn = random.nextInt(10);
        if (locals > 0 && drawn < 7) {
            add(bytes, 3, random.nextInt(locals));
        } else if (drawn < 8) {
            add(bytes, 12);
        }
        return bytes;
    }

    private List<Integer> perhaps(int s, int locals) {
        List<Integer> inner = unit(s, locals);
        List<Integer> bytes = new ArrayList<>();
        addPush(bytes, locals);
        add(bytes, 8, inner.size());
        bytes.addAll(inner);
        return bytes;
    }

    private void addPush(List<Integer> bytes, int locals) {
        if (locals > 0 && random.nextBoolean()) {
            add(bytes, 2, random.nextInt(locals));
        } else {
            add(bytes, 1, random.nextInt(4) == 0 ? random.nextInt(256) - 128 : random.nextInt(4));
        }
    }

    /** Mostly a later segment, so that most calls come back. */
    private void addCall(List<Integer> bytes, int s) {
        boolean any = s == 4 || random.nextInt(25) == 0;
        int called = any ? random.nextInt(5) : s + 1 + random.nextInt(4 - s);
        add(bytes, 10, called, random.nextInt(procedures[called]));
    }

    private static void add(List<Integer> bytes, int... more) {
        for (int b : more) {
            bytes.add(b);
        }
    }
}
