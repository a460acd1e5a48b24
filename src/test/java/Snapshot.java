/** All that the face tells of an object, as a text: two that are equal show that a call in between changed nothing. */
final class Snapshot {
    /** Frames whose locals are told; a snapshot must not eat up the calls that an object is good for. */
    private static final int FRAMES_TOLD = 4;

    private Snapshot() {
    }

    static String of(SegmentDesk desk) {
        StringBuilder text = new StringBuilder("look");
        for (int what = 0; what <= 10; what++) {
            text.append(' ').append(desk.look(what));
        }
        text.append(", good and state");
        for (int segment = 0; segment < 5; segment++) {
            text.append(' ').append(desk.good(segment)).append('/').append(desk.state(segment));
        }
        text.append(", out");
        int outs = desk.look(10);
        for (int i = 0; i < outs; i++) {
            text.append(' ').append(desk.out(i));
        }
        text.append(", locals");
        for (int i = 0; i < FRAMES_TOLD; i++) {
            for (int n = 0; n < 6; n++) {
                text.append(n == 0 ? " | " : " ").append(desk.local(i, n));
            }
        }
        return text.toString();
    }
}
