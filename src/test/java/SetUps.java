/** What objects hold ahead of a call that a test makes; none needs more than 200 calls. */
final class SetUps {
    /** 100 bytes: eight points come, two marks change. */
    static final String TEXT_OF_100 = "p-1,-1,-1,1;p-1,-1,-2,1;p-1,-2,-1,1;p-2,-1,-1,1;p-2,-2,-1,1;"
            + "p-2,-1,-2,1;p-1,-2,-2,1;p3,3,3,1;m02;m73";

    private SetUps() {
    }

    static void feed(ShapeMoves x, String text) {
        for (int i = 0; i < text.length(); i++) {
            x.feed(text.charAt(i));
        }
    }

    private static void row(ShapeMoves x, int tape, int sort, long... items) {
        x.tape(tape, sort, items.length);
        for (int i = 0; i < items.length; i++) {
            x.item(tape, i, items[i]);
        }
    }

    static void bare(ShapeMoves x) {
    }

    /** An image of nothing. */
    static void image(ShapeMoves x) {
        x.image();
    }

    /** Some of all: what textless puts there, and a text that could be read. */
    static void rich(ShapeMoves x) {
        textless(x);
        feed(x, "m04;d1");
    }

    /**
     * Points 0 and 1 beside the middle and 2 on another axis, so that THE GROUP is 0, 1, 4, 5;
     * rows of each kind; an image of less; tapes of all sorts, tape 5 holds nothing.
     */
    static void textless(ShapeMoves x) {
        x.point(1, 0, 0, 1);
        x.see(1, true);
        x.event(3, 2);
        x.book(0, 1);
        x.image();
        x.point(-1, 0, 0, 1);
        x.point(0, 2, 0, 3);
        x.see(2, false);
        x.event(0, 2);
        x.book(4, 2);
        row(x, 0, 0, 0, 1, 4, 5);
        row(x, 1, 1, 300, -2);
        row(x, 2, 2, 70000, -3);
        row(x, 3, 3, 1L << 40, -4);
        row(x, 4, 4, 1, 0, 1);
    }

    /** The corners of a cube, all with MARK 0: 48 moves keep them. */
    static void corners(ShapeMoves x) {
        for (int i = 0; i < 8; i++) {
            x.point(1 - 2 * (i / 4), 1 - 2 * (i / 2 % 2), 1 - 2 * (i % 2), 0);
        }
    }

    /** As much of all as there can be. */
    static void crowded(ShapeMoves x) {
        corners(x);
        for (int i = 0; i < 5; i++) {
            x.see(i, true);
        }
        for (int i = 0; i < 8; i++) {
            x.event(i % 4, 0);
            x.book(8 * (i % 3), i % 3 == 0 ? 1 : 2);
        }
        x.image();
        feed(x, TEXT_OF_100);
        x.tape(0, 0, 60);
        x.tape(1, 3, 60);
    }

    /** Points 0 and 1 on one axis, with marks 0 and 1: 1 takes each to the other. */
    static void mixed(ShapeMoves x) {
        Due.read(x, "p1,0,0,0;p-1,0,0,1");
    }

    /** Two alike on one axis: 16 moves keep them, in 10 classes. */
    static void rod(ShapeMoves x) {
        Due.read(x, "p0,0,1,0;p0,0,-1,0");
    }

    /** Two and two on two axes: moves 0 .. 7 keep them, each its own class. */
    static void cross(ShapeMoves x) {
        Due.read(x, "p2,0,0,0;p-2,0,0,0;p0,1,0,0;p0,-1,0,0");
    }

    /** The four turns about Z keep these, 0, 3, 17, 18; no mirror does. */
    static void pinwheel(ShapeMoves x) {
        Due.read(x, "p1,2,0,0;p-2,1,0,0;p-1,-2,0,0;p2,-1,0,0;p0,0,1,0");
    }

    /** Five of which every move but 0 takes each to none, or to one with another mark. */
    static void unlike(ShapeMoves x) {
        Due.read(x, "p1,2,3,0;p-1,2,3,1;p1,-2,3,2;p1,2,-3,3;p-1,-2,-3,4");
    }

    /** Eight that eight turns, 0, 3, 5, 6, 17, 18, 20, 23, take to one another. */
    static void eightTurns(ShapeMoves x) {
        int[] signs = {1, -1};
        for (int a : signs) {
            for (int b : signs) {
                x.point(a, 2 * b, 3 * a * b, 0);
                x.point(2 * a, b, -3 * a * b, 0);
            }
        }
    }

    /** One mirror beside 0 keeps these: 1. */
    static void mirror(ShapeMoves x) {
        Due.read(x, "p1,2,3,0;p-1,2,3,0");
    }

    /** Eight that 0 alone keeps; 7 takes each to none, or to one with another mark. */
    static void oneSided(ShapeMoves x) {
        Due.read(x, "p1,2,3,0;p-1,2,3,1;p1,-2,3,2;p1,2,-3,3;p0,1,2,0;p0,2,1,1;p2,2,1,2;p-1,-2,-3,4");
    }
}
