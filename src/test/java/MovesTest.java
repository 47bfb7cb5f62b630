/** Promises 9 to 14: moves, their products, what is told of the group. */
public final class MovesTest {
    private static final Due due = new Due("MovesTest");

    public static void main(String[] args) {
        product();
        move();
        moveAndShape();
        trace();
        takes();
        told();
        nearest();
        group();
        due.end();
    }

    private static void product() {
        due.promise("9 product");
        ShapeMoves x = new ShapeMoves();
        due.is("ways: swap y z behind swap x y", x.product(8, 16), 24);
        due.is("the other way round", x.product(16, 8), 32);
        due.is("signs alone", x.product(3, 5), 6);
        due.is("with move 0", x.product(0, 45), 45);
        due.is("move 0 behind", x.product(45, 0), 45);
        due.is("two thirds of a turn about a corner", x.product(24, 24), 32);
        due.is("and back", x.product(24, 32), 0);
        due.is("signs are carried along", x.product(25, 2), 24);
        due.is("signs are carried along, the other way round", x.product(2, 25), 27);
        due.is("signs and ways", x.product(9, 25), 16);
        due.is("a below", x.product(-1, 0), -1);
        due.is("a above", x.product(48, 0), -1);
        due.is("b below", x.product(0, -1), -1);
        due.is("b above", x.product(0, 48), -1);
        due.is("the last two", x.product(47, 47), 0);
        // a point shows that b comes first
        for (int a = 0; a < 48; a++) {
            x = new ShapeMoves();
            for (int b = 0; b < 48; b++) {
                int[] behind = PlainModel.takePlace(a, PlainModel.takePlace(b, new int[] {1, 2, 3}));
                int[] at = PlainModel.takePlace(x.product(a, b), new int[] {1, 2, 3});
                due.is("product(" + a + ", " + b + ")", PlainModel.isSame(at, behind) ? 1 : 0, 1);
            }
        }
    }

    private static void move() {
        due.promise("10 move");
        ShapeMoves x = new ShapeMoves();
        int[] orders = new int[7];
        for (int move = 0; move < 48; move++) {
            int inverse = x.move(move, 0);
            due.is("inverse behind " + move, x.product(inverse, move), 0);
            due.is("inverse ahead of " + move, x.product(move, inverse), 0);
            orders[x.move(move, 1)]++;
        }
        int[] due48 = {0, 1, 19, 8, 12, 0, 8};
        for (int order = 0; order < 7; order++) {
            due.is("how many have order " + order, orders[order], due48[order]);
        }
        due.is("inverse of 24", x.move(24, 0), 32);
        due.is("inverse of 25", x.move(25, 0), 34);
        due.is("inverse of 7", x.move(7, 0), 7);
        due.is("order of 0", x.move(0, 1), 1);
        due.is("order of 1", x.move(1, 1), 2);
        due.is("order of 9", x.move(9, 1), 2);
        due.is("order of 10", x.move(10, 1), 4);
        due.is("order of 24", x.move(24, 1), 3);
        due.is("order of 31", x.move(31, 1), 6);
        due.is("move -1", x.move(-1, 0), -1);
        due.is("move 48", x.move(48, 0), -1);
        due.is("what -1", x.move(0, -1), -1);
        due.is("what 4", x.move(0, 4), -1);
    }

    private static void moveAndShape() {
        due.promise("10 move, the shape");
        ShapeMoves x = new ShapeMoves();
        due.is("no points: 47 keeps", x.move(47, 2), 1);
        due.is("no points: none is moved", x.move(47, 3), 0);
        Due.read(x, "p1,0,0,0;p-1,0,0,0;p0,1,0,0;p0,-1,0,1;p0,0,2,0");
        due.is("0 keeps", x.move(0, 2), 1);
        due.is("1 keeps", x.move(1, 2), 1);
        due.is("1 moves none", x.move(1, 3), 0);
        due.is("2 doesn't: unlike marks", x.move(2, 2), 0);
        due.is("2 moves two", x.move(2, 3), 2);
        due.is("4 doesn't: no place", x.move(4, 2), 0);
        due.is("4 moves one", x.move(4, 3), 1);
        due.is("6 moves three", x.move(6, 3), 3);
        due.is("16 moves two: marks", x.move(16, 3), 2);
        due.is("8 moves three", x.move(8, 3), 3);
        due.is("40 moves three", x.move(40, 3), 3);
        due.is("31 moves four", x.move(31, 3), 4);
    }

    private static void trace() {
        due.promise("11 trace");
        ShapeMoves x = new ShapeMoves();
        int[] moves = {0, 1, 3, 7, 8, 9, 10, 15, 16, 20, 24, 31, 32, 39, 40, 42, 47};
        int[] traces = {3, 1, -1, -3, 1, -1, 1, -1, 1, -1, 0, 0, 0, 0, 1, -1, -1};
        int[] turns = {1, -1, 1, -1, -1, 1, 1, 1, -1, 1, 1, -1, 1, -1, -1, 1, 1};
        for (int i = 0; i < moves.length; i++) {
            due.is("trace of " + moves[i], x.trace(moves[i], 0), traces[i]);
            due.is("turn of " + moves[i], x.trace(moves[i], 1), turns[i]);
        }
        for (int move = 0; move < 48; move++) {
            due.is("trace of " + move, x.trace(move, 0), PlainModel.traceOf(move));
            due.is("turn of " + move, x.trace(move, 1), PlainModel.turnOf(move));
        }
        due.is("move -1", x.trace(-1, 0), -9);
        due.is("move 48", x.trace(48, 1), -9);
        due.is("what -1", x.trace(0, -1), -9);
        due.is("what 2", x.trace(0, 2), -9);
    }

    private static void takes() {
        due.promise("12 takes");
        ShapeMoves x = Due.shape("p1,2,3,0;p2,3,1,1;p3,1,2,2;p-1,2,3,4");
        due.is("x becomes y: way 3", x.takes(24, 0), 1);
        due.is("way 4", x.takes(32, 0), 2);
        due.is("whatever the mark", x.takes(1, 0), 3);
        due.is("and back", x.takes(1, 3), 0);
        due.is("itself", x.takes(0, 2), 2);
        due.is("none there", x.takes(7, 0), -5);
        due.is("none there either", x.takes(16, 1), -5);
        due.is("point -1", x.takes(0, -1), -1);
        due.is("point 4", x.takes(0, 4), -1);
        due.is("move -1", x.takes(-1, 0), -1);
        due.is("move 48", x.takes(48, 0), -1);
    }

    /** POINTS, how many in the group, CLASSES, ORBITS, HANDED, CENTRED, SIGNS, NEAREST. */
    private static void toldOf(String shape, int... wants) {
        ShapeMoves x = Due.shape(shape);
        for (int what = 0; what < wants.length; what++) {
            due.is("told(" + what + ") of " + shape, x.told(what), wants[what]);
        }
    }

    private static void told() {
        due.promise("13 told");
        toldOf("p0,0,0,3", 1, 48, 10, 1, 0, 1, 4, -5);
        toldOf("p1,2,3,0", 1, 1, 1, 1, 1, 0, 1, 1);
        toldOf("p0,0,1,0", 1, 8, 5, 1, 0, 0, 4, 4);
        toldOf("p1,2,3,0;p-1,-2,3,0", 2, 2, 2, 1, 1, 0, 2, 1);
        toldOf("p1,2,3,0;p-1,-2,3,1", 2, 1, 1, 2, 1, 0, 1, 1);
        toldOf("p1,2,3,0;p-1,-2,-3,0", 2, 2, 2, 1, 0, 1, 2, 1);
        toldOf("p1,2,0,0;p-1,-2,0,0", 2, 4, 4, 1, 0, 1, 4, 1);
        toldOf("p0,0,1,0;p0,0,-1,0", 2, 16, 10, 1, 0, 1, 8, 8);
        toldOf("p1,1,1,0;p1,-1,-1,0;p-1,1,-1,0;p-1,-1,1,0", 4, 24, 5, 1, 0, 0, 2, 1);
        toldOf("p2,0,0,0;p-2,0,0,0;p0,1,0,0;p0,-1,0,0", 4, 8, 8, 2, 0, 1, 8, 8);
        // the turns of a pinwheel: 4 in a row, each its own class
        toldOf("p1,2,0,0;p-2,1,0,0;p-1,-2,0,0;p2,-1,0,0;p0,0,1,0", 5, 4, 4, 2, 1, 0, 2, 4);
        // six turns and mirrors about a corner
        toldOf("p1,0,0,0;p0,1,0,0;p0,0,1,0", 3, 6, 3, 1, 0, 0, 2, 1);
        toldOf("p1,2,3,0;p2,3,1,0;p3,1,2,0", 3, 3, 3, 1, 1, 0, 1, 1);
        ShapeMoves x = new ShapeMoves();
        due.is("told(-1)", x.told(-1), -1);
        due.is("told(8)", x.told(8), -1);
        due.is("no points: nearest", x.told(7), -5);
        due.is("no points: not handed", x.told(4), 0);
        x.point(1, 2, 3, 0);
        due.is("then handed", x.told(4), 1);
    }

    private static void nearest() {
        due.promise("13 told, NEAREST");
        due.is("fewest ahead of least", Due.shape("p1,0,0,0;p-1,0,0,1;p0,1,0,0").told(7), 2);
        due.is("of several the least", Due.shape("p1,2,3,0").told(7), 1);
        due.is("by marks", Due.shape("p1,0,0,0;p0,1,0,0;p0,0,1,1;p0,0,0,2").told(7), 1);
        due.is("all eight are moved by every other move", Due.shape("p1,2,3,0;p-1,-2,3,0;p-1,2,-3,0;p1,-2,-3,0;"
                + "p-2,1,3,0;p2,-1,3,0;p2,1,-3,0;p-2,-1,-3,0").told(7), 1);
        due.is("far on", Due.shape("p1,2,3,0;p1,3,2,0;p2,1,3,0;p2,3,1,0;p3,1,2,1").told(7), 8);
    }

    private static void group() {
        due.promise("14 group");
        ShapeMoves x = new ShapeMoves();
        for (int k = 0; k < 48; k++) {
            due.is("all", x.group(k), k);
        }
        due.is("none is behind", x.group(48), -5);
        due.is("far behind", x.group(Integer.MAX_VALUE), -5);
        due.is("below", x.group(-1), -1);
        due.is("far below", x.group(Integer.MIN_VALUE), -1);
        x.point(0, 0, 2, 1);
        int[] eight = {0, 1, 2, 3, 16, 17, 18, 19, -5};
        for (int k = 0; k < 9; k++) {
            due.is("eight, " + k, x.group(k), eight[k]);
        }
        x.point(0, 1, 2, 2);
        due.is("two, 0", x.group(0), 0);
        due.is("two, 1", x.group(1), 1);
        due.is("two, 2", x.group(2), -5);
        x.mark(1, 1);
        x.point(0, 2, 1, 1);
        due.is("unlike in number", x.group(1), 1);
        x.drop(0);
        due.is("swap y and z", x.group(2), 8);
        due.is("swap y and z, x turned", x.group(3), 9);
        due.is("no more", x.group(4), -5);
    }
}
