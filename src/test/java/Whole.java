/**
 * All that an object tells of itself, as a text: two objects in the same state tell the same. It
 * reads THE TEXT, writes to the tapes and goes back to THE IMAGE, so that these tell too: the
 * object is done with then. It takes some 270 calls of the 512 that an object is used for.
 */
final class Whole {
    private final ShapeMoves x;
    private final StringBuilder told = new StringBuilder();

    private Whole(ShapeMoves x) {
        this.x = x;
    }

    static String of(ShapeMoves x) {
        Whole whole = new Whole(x);
        whole.points();
        whole.group();
        whole.rows();
        whole.tapes();
        whole.put("read", x.read());
        whole.points();
        whole.rows();
        whole.put("undo", x.undo());
        whole.points();
        whole.group();
        whole.rows();
        return whole.told.toString();
    }

    /** What can be asked without changing anything, in some 80 calls. */
    static String asked(ShapeMoves x) {
        Whole whole = new Whole(x);
        whole.points();
        whole.group();
        whole.rows();
        return whole.told.toString();
    }

    private void put(String what, long answer) {
        told.append(' ').append(what).append(' ').append(answer);
    }

    private void points() {
        int size = x.told(0);
        put("points", size);
        for (int point = 0; point < size; point++) {
            for (int what = 0; what < 4; what++) {
                put("of", x.of(point, what));
            }
        }
    }

    private void group() {
        for (int what = 1; what < 8; what++) {
            put("told", x.told(what));
        }
        put("last orbit", x.of(x.told(0) - 1, 4));
        put("mean", x.mean(0));
        put("active", x.active(1));
        put("inner", x.has(4, 0));
    }

    private void rows() {
        for (int what = 0; what < 4; what++) {
            put("count", x.count(what));
        }
        for (int what = 0; what < 3; what++) {
            put("after", x.after(what));
        }
        for (int point = 0; point < 2; point++) {
            put("fits", x.fits(point, 0));
            put("fits", x.fits(point, 1));
        }
        put("looked", x.looked());
    }

    /** Items, then the sorts: another sort refuses, and holds fewer or more bits. */
    private void tapes() {
        int[] places = {0, 1, 2, 3, 4, 59, 60};
        for (int tape = 0; tape < 6; tape++) {
            for (int place : places) {
                put("peek", x.peek(tape, place));
            }
            put("judge", x.judge(tape, 0));
            put("shift", x.shift(tape, 0, (tape + 1) % 6, 0, 0));
            put("item", x.item(tape, 0, 0x123456789abcdefL));
            put("peek", x.peek(tape, 0));
        }
    }
}
