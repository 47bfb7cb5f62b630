/** Promises 15 to 20: classes, motions, signs. */
public final class ClassesTest {
    private static final Due due = new Due("ClassesTest");

    private static final String WEDGE = "p1,1,0,0;p-1,-1,0,0;p0,0,1,0";
    private static final String CORNER = "p1,0,0,0;p0,1,0,0;p0,0,1,0";
    private static final String TETRAHEDRON = "p1,1,1,0;p1,-1,-1,0;p-1,1,-1,0;p-1,-1,1,0";
    private static final String BOX = "p2,0,0,0;p-2,0,0,0;p0,1,0,0;p0,-1,0,0";

    public static void main(String[] args) {
        classOf();
        classAt();
        motion();
        sign();
        has();
        active();
        allFollowTheShape();
        due.end();
    }

    private static void classOf() {
        due.promise("15 classOf");
        ShapeMoves x = new ShapeMoves();
        int[] moves = {0, 4, 6, 7, 16, 20, 18, 47, 39, 32, 40};
        int[] least = {0, 1, 3, 7, 8, 9, 10, 9, 25, 24, 8};
        int[] sizes = {1, 3, 3, 1, 6, 6, 6, 6, 8, 8, 6};
        for (int i = 0; i < moves.length; i++) {
            due.is("least of " + moves[i], x.classOf(moves[i], 0), least[i]);
            due.is("in class of " + moves[i], x.classOf(moves[i], 1), sizes[i]);
        }
        due.is("move -1", x.classOf(-1, 0), -1);
        due.is("move 48", x.classOf(48, 0), -1);
        due.is("what -1", x.classOf(0, -1), -1);
        due.is("what 2", x.classOf(0, 2), -1);
        ShapeMoves y = Due.shape(WEDGE);
        due.is("not in the group", y.classOf(1, 0), -3);
        due.is("not in the group, how many", y.classOf(1, 1), -3);
        due.is("what is ahead of the group", y.classOf(1, 2), -1);
        due.is("each its own class", y.classOf(16, 0), 16);
        due.is("each its own class, 1", y.classOf(19, 1), 1);
        ShapeMoves z = Due.shape(TETRAHEDRON);
        due.is("by the group alone", z.classOf(37, 0), 24);
        due.is("eight", z.classOf(37, 1), 8);
        due.is("turned mirrors", z.classOf(43, 0), 11);
        due.is("six of them", z.classOf(43, 1), 6);
        due.is("mirrors", z.classOf(45, 0), 8);
        z.mark(0, 1);
        due.is("a smaller group", z.classOf(40, 1), 3);
        due.is("a smaller group, turns", z.classOf(32, 1), 2);
    }

    private static void classAt() {
        due.promise("16 classAt");
        int[] corner = {0, 8, 24, -5};
        ShapeMoves x = Due.shape(CORNER);
        for (int k = 0; k < corner.length; k++) {
            due.is("corner " + k, x.classAt(k), corner[k]);
        }
        due.is("far behind", x.classAt(Integer.MAX_VALUE), -5);
        due.is("-1", x.classAt(-1), -1);
        due.is("far below", x.classAt(Integer.MIN_VALUE), -1);
        int[] wedge = {0, 3, 16, 19, -5};
        ShapeMoves y = Due.shape(WEDGE);
        for (int k = 0; k < wedge.length; k++) {
            due.is("wedge " + k, y.classAt(k), wedge[k]);
        }
    }

    /** POINTS, ALL, SHIFTS, TURNS, INNER, PAIRS. */
    private static void motions(ShapeMoves x, int move, int... wants) {
        for (int motion = 0; motion < 6; motion++) {
            due.is("motion(" + motion + ", " + move + ")", x.motion(motion, move), wants[motion]);
        }
    }

    private static void motion() {
        due.promise("17 motion");
        // as a water molecule lies: one point at the middle, two beside it
        ShapeMoves x = Due.shape("p0,0,0,1;p1,0,1,0;p-1,0,1,0");
        motions(x, 0, 3, 9, 3, 3, 3, 6);
        motions(x, 1, 1, 1, 1, -1, 1, 2);
        motions(x, 2, 3, 3, 1, -1, 3, 2);
        motions(x, 3, 1, -1, -1, -1, 1, 2);
        ShapeMoves y = Due.shape("p0,0,0,1;" + TETRAHEDRON);
        motions(y, 0, 5, 15, 3, 3, 9, 6);
        motions(y, 24, 2, 0, 0, 0, 0, 0);
        motions(y, 11, 1, -1, -1, 1, -1, 0);
        motions(y, 8, 3, 3, 1, -1, 3, 2);
        motions(new ShapeMoves(), 31, 0, 0, 0, 0, 0, 0);
        motions(new ShapeMoves(), 7, 0, 0, -3, 3, 0, 6);
        due.is("motion -1", x.motion(-1, 0), -1000);
        due.is("motion 6", x.motion(6, 0), -1000);
        due.is("move -1", x.motion(0, -1), -1000);
        due.is("move 48", x.motion(0, 48), -1000);
        due.is("not in the group", x.motion(2, 4), -1000);
    }

    /** What each sign is for each of the group, a row a sign. */
    private static void signs(String shape, int[] moves, int[]... wants) {
        ShapeMoves x = Due.shape(shape);
        for (int k = 0; k < wants.length; k++) {
            for (int i = 0; i < moves.length; i++) {
                due.is("sign(" + k + ", " + moves[i] + ") of " + shape, x.sign(k, moves[i]), wants[k][i]);
            }
        }
        for (int i = 0; i < moves.length; i++) {
            due.is("no more signs of " + shape, x.sign(wants.length, moves[i]), 0);
        }
    }

    private static void sign() {
        due.promise("18 sign");
        signs(WEDGE, new int[] {0, 3, 16, 19},
                new int[] {1, 1, 1, 1}, new int[] {1, 1, -1, -1},
                new int[] {1, -1, 1, -1}, new int[] {1, -1, -1, 1});
        signs(CORNER, new int[] {0, 8, 16, 24, 32, 40},
                new int[] {1, 1, 1, 1, 1, 1}, new int[] {1, -1, -1, 1, 1, -1});
        signs(BOX, new int[] {0, 1, 2, 3, 4, 5, 6, 7},
                new int[] {1, 1, 1, 1, 1, 1, 1, 1}, new int[] {1, 1, 1, 1, -1, -1, -1, -1},
                new int[] {1, 1, -1, -1, 1, 1, -1, -1}, new int[] {1, 1, -1, -1, -1, -1, 1, 1},
                new int[] {1, -1, 1, -1, 1, -1, 1, -1}, new int[] {1, -1, 1, -1, -1, 1, -1, 1},
                new int[] {1, -1, -1, 1, 1, -1, -1, 1}, new int[] {1, -1, -1, 1, -1, 1, 1, -1});
        signs("p1,2,0,0;p-2,1,0,0;p-1,-2,0,0;p2,-1,0,0;p0,0,1,0", new int[] {0, 3, 17, 18},
                new int[] {1, 1, 1, 1}, new int[] {1, 1, -1, -1});
        signs("p1,2,3,0;p2,3,1,0;p3,1,2,0", new int[] {0, 24, 32}, new int[] {1, 1, 1});
        signs("p1,2,3,0", new int[] {0}, new int[] {1});
        ShapeMoves x = new ShapeMoves();
        int[] whole = {1, 1, -1, -1};
        int[] swapped = {1, -1, 1, -1};
        for (int k = 0; k < 4; k++) {
            due.is("all 48: sign " + k + " of 1", x.sign(k, 1), whole[k]);
            due.is("all 48: sign " + k + " of 8", x.sign(k, 8), swapped[k]);
            due.is("all 48: sign " + k + " of 24", x.sign(k, 24), 1);
            due.is("all 48: sign " + k + " of 47", x.sign(k, 47), whole[k] * swapped[k]);
        }
        due.is("k -1", x.sign(-1, 0), 0);
        due.is("k 4", x.sign(4, 0), 0);
        due.is("k far", x.sign(Integer.MAX_VALUE, 0), 0);
        due.is("move -1", x.sign(0, -1), 0);
        due.is("move 48", x.sign(0, 48), 0);
        due.is("not in the group", Due.shape(WEDGE).sign(0, 1), 0);
    }

    private static void hasAll(String shape, int[]... wants) {
        ShapeMoves x = Due.shape(shape);
        for (int motion = 0; motion < 6; motion++) {
            for (int k = 0; k < wants[motion].length; k++) {
                due.is("has(" + motion + ", " + k + ") of " + shape, x.has(motion, k), wants[motion][k]);
            }
            due.is("no such sign", x.has(motion, wants[motion].length), -1000);
        }
    }

    private static void has() {
        due.promise("19 has");
        hasAll("p0,0,0,1;p1,0,1,0;p-1,0,1,0",
                new int[] {2, 0, 1, 0}, new int[] {3, 2, 3, 1}, new int[] {1, 1, 1, 0},
                new int[] {0, 1, 1, 1}, new int[] {2, 0, 1, 0}, new int[] {3, 1, 1, 1});
        hasAll("p0,0,0,1;" + TETRAHEDRON,
                new int[] {2, 0}, new int[] {1, 0}, new int[] {0, 0},
                new int[] {0, 0}, new int[] {1, 0}, new int[] {1, 0});
        // a row of two: INNER is below 0, as it turns in two ways alone
        hasAll("p0,0,1,0;p0,0,-1,0",
                new int[] {1, 0, 1, 0, 0, 0, 0, 0}, new int[] {1, 0, 1, 0, 0, 0, 0, 0},
                new int[] {0, 0, 1, 0, 0, 0, 0, 0}, new int[] {0, 0, 0, 0, 0, 1, 0, 0},
                new int[] {1, 0, 0, 0, 0, -1, 0, 0}, new int[] {2, 1, 0, 0, 1, 0, 0, 0});
        ShapeMoves x = new ShapeMoves();
        due.is("motion -1", x.has(-1, 0), -1000);
        due.is("motion 6", x.has(6, 0), -1000);
        due.is("k -1", x.has(0, -1), -1000);
        due.is("k 4", x.has(0, 4), -1000);
        due.is("k far", x.has(0, Integer.MAX_VALUE), -1000);
        due.is("one point at one side", Due.shape("p1,2,3,0").has(4, 0), -3);
    }

    private static void actives(String shape, int shifts, int pairs, int neither) {
        ShapeMoves x = Due.shape(shape);
        due.is("active(0) of " + shape, x.active(0), shifts);
        due.is("active(1) of " + shape, x.active(1), pairs);
        due.is("active(2) of " + shape, x.active(2), neither);
    }

    private static void active() {
        due.promise("20 active");
        actives("p0,0,0,1;p1,0,1,0;p-1,0,1,0", 1 + 2 + 4, 1 + 2 + 4 + 8, 0);
        actives("p0,0,1,0;p0,0,-1,0", 4, 1 + 2 + 16, 8 + 32 + 64 + 128);
        actives(BOX, 2 + 4 + 16, 1 + 8 + 32 + 64, 128);
        actives("p1,2,3,0", 1, 1, 0);
        actives("p0,0,0,0", 0, 1, 2 + 4 + 8);
        actives(CORNER, 1, 1, 2);
        due.is("what -1", new ShapeMoves().active(-1), -1);
        due.is("what 3", new ShapeMoves().active(3), -1);
    }

    private static void allFollowTheShape() {
        ShapeMoves x = new ShapeMoves();
        due.promise("all follow the shape: no points");
        askAll(x, 0, 4, 1);
        due.promise("all follow the shape: point");
        x.point(0, 0, 1, 0);
        askAll(x, 1, 4, 1);
        x.point(0, 0, -1, 0);
        askAll(x, 2, 8, 1);
        due.promise("all follow the shape: mark");
        x.mark(0, 1);
        askAll(x, 2, 4, 2);
        due.promise("all follow the shape: read");
        Due.read(x, "m00");
        askAll(x, 2, 8, 1);
        due.promise("all follow the shape: drop");
        x.drop(1);
        askAll(x, 1, 4, 1);
        due.promise("all follow the shape: undo");
        x.image();
        x.mark(0, 3);
        x.point(1, 2, 3, 0);
        askAll(x, 2, 1, 2);
        x.undo();
        askAll(x, 1, 4, 1);
    }

    /** How many stay by move 0, how many signs there are, and of POINTS the first of them. */
    private static void askAll(ShapeMoves x, int stay, int signs, int orbits) {
        due.is("motion(0, 0)", x.motion(0, 0), stay);
        due.is("told(6)", x.told(6), signs);
        due.is("sign(" + (signs - 1) + ", 0)", x.sign(signs - 1, 0), 1);
        due.is("sign(" + signs + ", 0)", x.sign(signs, 0), 0);
        due.is("has(0, 0): an orbit counts once", x.has(0, 0), stay == 0 ? 0 : orbits);
        due.is("active: each is one or the other", x.active(0) | x.active(1) | x.active(2), (1 << signs) - 1);
    }
}
