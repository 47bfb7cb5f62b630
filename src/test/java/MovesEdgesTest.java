import java.util.function.Consumer;
import java.util.function.ToLongFunction;

/**
 * Promises 9 to 14, and what the Terms say of MOVES and THE GROUP: each sentence that names a
 * boundary has a test of its own, named by the sentence.
 */
public final class MovesEdgesTest {
    private static final int LEAST = Integer.MIN_VALUE;
    private static final int MOST = Integer.MAX_VALUE;
    /** Not as told wherever 0 .. 47 is; of some the lowest bits are. */
    private static final int[] FAR = {LEAST, MOST, 256, 65536, -48, -256, LEAST + 1, 64, 100};
    private static final Due due = new Due("MovesEdgesTest");

    public static void main(String[] args) {
        waysAndSigns();
        productNone();
        productOrder();
        moveNone();
        inverseEdges();
        orderEdges();
        keepsEdges();
        movedEdges();
        traceNotTold();
        traceEdges();
        turnEdges();
        takesNone();
        takesWhateverTheMark();
        takesNoPoint();
        toldNone();
        toldLeastAndMost();
        handed();
        centred();
        nearestFewest();
        nearestOfSeveral();
        nearestAll();
        groupWithoutPoints();
        groupEnd();
        groupNone();
        groupSameMark();
        due.end();
    }

    private static void isNone(String call, ToLongFunction<ShapeMoves> asked) {
        due.keeps(call, SetUps::rich, asked, -1);
        due.keeps(call + " without points", SetUps::bare, asked, -1);
    }

    // ---- Terms: MOVES

    /** Where each WAY takes X 1, Y 2, Z 3, without SIGNS. */
    private static final int[][] BY_WAY = {{1, 2, 3}, {1, 3, 2}, {2, 1, 3}, {2, 3, 1}, {3, 1, 2}, {3, 2, 1}};

    private static void waysAndSigns() {
        due.promise("12, Terms 'MOVES 0 .. 47: 8 times a WAY (0 .. 5) and SIGNS (0 .. 7)'");
        for (int move = 0; move < 48; move++) {
            int[] to = BY_WAY[move / 8];
            ShapeMoves x = new ShapeMoves();
            x.point(1, 2, 3, 0);
            int last = x.point((move & 1) == 0 ? to[0] : -to[0], (move & 2) == 0 ? to[1] : -to[1],
                    (move & 4) == 0 ? to[2] : -to[2], 0);
            due.is("move " + move + " takes 1, 2, 3", x.takes(move, 0), move == 0 ? 0 : last);
            if (move > 0) {
                due.is("another doesn't take it there", x.takes((move + 1) % 48, 0) == last ? 1 : 0, 0);
            }
        }
    }

    // ---- 9

    private static void productNone() {
        due.promise("9 'NONE: either'");
        due.keeps("the least of both", SetUps::rich, x -> x.product(0, 0), 0);
        due.keeps("the most of a", SetUps::rich, x -> x.product(47, 0), 47);
        due.keeps("the most of b", SetUps::rich, x -> x.product(0, 47), 47);
        due.keeps("the most of both", SetUps::rich, x -> x.product(47, 47), 0);
        isNone("a -1", x -> x.product(-1, 0));
        isNone("a 48", x -> x.product(48, 0));
        isNone("b -1", x -> x.product(0, -1));
        isNone("b 48", x -> x.product(0, 48));
        isNone("both", x -> x.product(48, -1));
        for (int far : FAR) {
            isNone("a " + far, x -> x.product(far, 1));
            isNone("b " + far, x -> x.product(1, far));
        }
    }

    private static void productOrder() {
        due.promise("9, Terms 'PRODUCT of a and b: what b, and then a does'");
        due.keeps("8 behind 16", SetUps::bare, x -> x.product(8, 16), 24);
        due.keeps("16 behind 8", SetUps::bare, x -> x.product(16, 8), 32);
        due.keeps("SIGNS of b are carried by the WAY of a", SetUps::bare, x -> x.product(8, 2), 12);
        due.keeps("SIGNS of a stand", SetUps::bare, x -> x.product(2, 8), 10);
    }

    // ---- 10

    private static void moveNone() {
        due.promise("10 'NONE: move, what'");
        for (int i = 0; i < 4; i++) {
            int what = i;
            int[] least = {0, 1, 1, 0};
            due.keeps("move 0, what " + what, SetUps::rich, x -> x.move(0, what), least[what]);
            due.keeps("move 47, what " + what, SetUps::corners, x -> x.move(47, what), new int[] {47, 2, 1, 0}[what]);
            isNone("move -1, what " + what, x -> x.move(-1, what));
            isNone("move 48, what " + what, x -> x.move(48, what));
        }
        isNone("what -1", x -> x.move(0, -1));
        isNone("what 4", x -> x.move(0, 4));
        isNone("what 4 of the last", x -> x.move(47, 4));
        isNone("both", x -> x.move(48, 4));
        for (int far : FAR) {
            isNone("move " + far, x -> x.move(far, 1));
            isNone("what " + far, x -> x.move(1, far));
        }
    }

    private static void inverseEdges() {
        due.promise("10, Terms 'INVERSE of a: with which the PRODUCT is MOVE 0'");
        ShapeMoves x = new ShapeMoves();
        int[] moves = {0, 7, 10, 24, 25, 26, 28, 32, 33, 39, 47};
        int[] inverses = {0, 7, 12, 32, 34, 36, 33, 24, 28, 31, 47};
        for (int i = 0; i < moves.length; i++) {
            due.is("inverse of " + moves[i], x.move(moves[i], 0), inverses[i]);
        }
        for (int move = 0; move < 48; move++) {
            due.is("the product with it, " + move, x.product(move, x.move(move, 0)), 0);
        }
        for (int move = 0; move < 48; move++) {
            due.is("its product with " + move, x.product(x.move(move, 0), move), 0);
        }
    }

    private static void orderEdges() {
        due.promise("10, Terms 'ORDER: how many of these there are up to MOVE 0 (MOVE 0: 1)'");
        int[] moves = {0, 1, 7, 8, 10, 24, 31, 25, 35, 47};
        int[] orders = {1, 2, 2, 2, 4, 3, 6, 6, 3, 2};
        for (int i = 0; i < moves.length; i++) {
            int move = moves[i];
            due.keeps("order of " + move, SetUps::rich, x -> x.move(move, 1), orders[i]);
        }
        ShapeMoves x = new ShapeMoves();
        for (int move = 0; move < 48; move++) {
            int power = move;
            int order = x.move(move, 1);
            for (int i = 1; i < order; i++) {
                due.is("a power of " + move + " ahead of its order isn't 0", power == 0 ? 1 : 0, 0);
                power = x.product(power, move);
            }
            due.is("the power of " + move + " by its order", power, 0);
        }
    }

    private static void keepsEdges() {
        due.promise("10 '1 if it KEEPS the SHAPE, else 0'");
        due.keeps("without points all do", SetUps::bare, x -> x.move(47, 2), 1);
        due.keeps("0 keeps all", SetUps::crowded, x -> x.move(0, 2), 1);
        due.keeps("the last of four", SetUps::rich, x -> x.move(5, 2), 1);
        due.keeps("one point is taken to none", SetUps::rich, x -> x.move(2, 2), 0);
        due.keeps("all eight are kept", SetUps::crowded, x -> x.move(47, 2), 1);
        due.keeps("the eighth alone has another mark", x -> {
            SetUps.corners(x);
            x.mark(7, 1);
        }, x -> x.move(1, 2), 0);
    }

    private static void movedEdges() {
        due.promise("10, Terms MOVED: 'to none, or to one with another MARK'");
        due.keeps("without points none", SetUps::bare, x -> x.move(47, 3), 0);
        due.keeps("none by 0", SetUps::rich, x -> x.move(0, 3), 0);
        due.keeps("one to none", SetUps::rich, x -> x.move(2, 3), 1);
        due.keeps("all three to none", SetUps::rich, x -> x.move(24, 3), 3);
        due.keeps("two to another's place", SetUps::mixed, x -> x.move(1, 3), 2);
        due.keeps("all eight", SetUps::oneSided, x -> x.move(7, 3), 8);
        due.keeps("none of eight", SetUps::crowded, x -> x.move(7, 3), 0);
    }

    // ---- 11

    private static void notTold(String call, ToLongFunction<ShapeMoves> asked) {
        due.keeps(call, SetUps::rich, asked, -9);
    }

    private static void traceNotTold() {
        due.promise("11 '-9: move, what'");
        due.keeps("move 0", SetUps::rich, x -> x.trace(0, 0), 3);
        due.keeps("move 47", SetUps::rich, x -> x.trace(47, 1), 1);
        notTold("move -1", x -> x.trace(-1, 0));
        notTold("move 48", x -> x.trace(48, 0));
        notTold("move -1, TURN", x -> x.trace(-1, 1));
        notTold("move 48, TURN", x -> x.trace(48, 1));
        notTold("what -1", x -> x.trace(0, -1));
        notTold("what 2", x -> x.trace(0, 2));
        notTold("both", x -> x.trace(48, 2));
        for (int far : FAR) {
            notTold("move " + far, x -> x.trace(far, 0));
            notTold("what " + far, x -> x.trace(0, far));
        }
    }

    private static void traceEdges() {
        due.promise("11, Terms TRACE: 'for each axis i that stands at i in its WAY 1, or -1'");
        ShapeMoves x = new ShapeMoves();
        int[] byThree = {3, 1, 1, -1, 1, -1, -1, -3};
        for (int signs = 0; signs < 8; signs++) {
            due.is("way 0, all three stand: " + signs, x.trace(signs, 0), byThree[signs]);
            due.is("way 1, X alone stands: " + signs, x.trace(8 + signs, 0), (signs & 1) == 0 ? 1 : -1);
            due.is("way 2, Z alone stands: " + signs, x.trace(16 + signs, 0), (signs & 4) == 0 ? 1 : -1);
            due.is("way 3, none stands: " + signs, x.trace(24 + signs, 0), 0);
            due.is("way 4, none stands: " + signs, x.trace(32 + signs, 0), 0);
            due.is("way 5, Y alone stands: " + signs, x.trace(40 + signs, 0), (signs & 2) == 0 ? 1 : -1);
        }
    }

    private static void turnEdges() {
        due.promise("11, Terms TURN: '(0, 3, 4: 1; 1, 2, 5: -1), times -1 for each bit of SIGNS'");
        ShapeMoves x = new ShapeMoves();
        int[] byWay = {1, -1, -1, 1, 1, -1};
        int[] bySigns = {1, -1, -1, 1, -1, 1, 1, -1};
        for (int move = 0; move < 48; move++) {
            due.is("turn of " + move, x.trace(move, 1), byWay[move / 8] * bySigns[move % 8]);
        }
    }

    // ---- 12

    private static void takesNone() {
        due.promise("12 'NONE: move, point'");
        due.keeps("the first move and point", SetUps::corners, x -> x.takes(0, 0), 0);
        due.keeps("the last move and point", SetUps::corners, x -> x.takes(47, 7), 0);
        isNone("move -1", x -> x.takes(-1, 0));
        isNone("move 48", x -> x.takes(48, 0));
        isNone("point -1", x -> x.takes(0, -1));
        isNone("point 3 of three, and of none", x -> x.takes(0, 3));
        isNone("both", x -> x.takes(48, 3));
        due.keeps("point 0 of none", SetUps::bare, x -> x.takes(0, 0), -1);
        due.keeps("point 8 of eight", SetUps::corners, x -> x.takes(0, 8), -1);
        for (int far : FAR) {
            due.keeps("move " + far, SetUps::rich, x -> x.takes(far, 0), -1);
            due.keeps("point " + far, SetUps::crowded, x -> x.takes(0, far), -1);
        }
    }

    private static void takesWhateverTheMark() {
        due.promise("12 '(its PLACE, whatever the MARK)'");
        due.keeps("to one with another mark", SetUps::mixed, x -> x.takes(1, 0), 1);
        due.keeps("and back", SetUps::mixed, x -> x.takes(1, 1), 0);
        due.keeps("where it is", SetUps::mixed, x -> x.takes(6, 0), 0);
    }

    private static void takesNoPoint() {
        due.promise("12 '-5: none'");
        due.keeps("none is there", SetUps::rich, x -> x.takes(2, 2), -5);
        due.keeps("one is", SetUps::rich, x -> x.takes(1, 2), 2);
        due.keeps("none of eight is there", SetUps::oneSided, x -> x.takes(7, 6), -5);
        due.keeps("the last of eight is", SetUps::oneSided, x -> x.takes(7, 0), 7);
    }

    // ---- 13

    private static void toldNone() {
        due.promise("13 'NONE'");
        isNone("-1", x -> x.told(-1));
        isNone("8", x -> x.told(8));
        for (int far : FAR) {
            isNone("what " + far, x -> x.told(far));
        }
    }

    private static void toldAll(String name, Consumer<ShapeMoves> setUp, int... wants) {
        for (int i = 0; i < wants.length; i++) {
            int what = i;
            due.keeps(name + ": told(" + what + ")", setUp, x -> x.told(what), wants[what]);
        }
    }

    private static void toldLeastAndMost() {
        due.promise("13 'What 0 POINTS, .. 7 NEAREST (-5)': the least and the most of each");
        toldAll("none", SetUps::bare, 0, 48, 10, 0, 0, 1, 4, -5);
        toldAll("three", SetUps::rich, 3, 4, 4, 2, 0, 0, 4, 2);
        toldAll("eight alike", SetUps::corners, 8, 48, 10, 1, 0, 1, 4, -5);
        toldAll("eight unlike", SetUps::oneSided, 8, 1, 1, 8, 1, 0, 1, 1);
        toldAll("as many SIGNS as can be", SetUps::cross, 4, 8, 8, 2, 0, 1, 8, 8);
        toldAll("as many CLASSES as can be, but one axis", SetUps::rod, 2, 16, 10, 1, 0, 1, 8, 8);
    }

    private static void handed() {
        due.promise("13, Terms 'HANDED: no MOVE of THE GROUP has TURN -1'");
        due.keeps("0 alone has TURN 1", SetUps::oneSided, x -> x.told(4), 1);
        due.keeps("one mirror in it", SetUps::mirror, x -> x.told(4), 0);
        due.keeps("turns alone", SetUps::pinwheel, x -> x.told(4), 1);
        due.keeps("all 48", SetUps::bare, x -> x.told(4), 0);
        due.keeps("MOVE 7 alone beside 0", x -> Due.read(x, "p1,2,3,0;p-1,-2,-3,0"), x -> x.told(4), 0);
    }

    private static void centred() {
        due.promise("13, Terms 'CENTRED: MOVE 7 is in THE GROUP'");
        due.keeps("7 alone beside 0", x -> Due.read(x, "p1,2,3,0;p-1,-2,-3,0"), x -> x.told(5), 1);
        due.keeps("but for a mark", x -> Due.read(x, "p1,2,3,0;p-1,-2,-3,1"), x -> x.told(5), 0);
        due.keeps("other moves alone", SetUps::rich, x -> x.told(5), 0);
        due.keeps("without points", SetUps::bare, x -> x.told(5), 1);
        due.keeps("one at the middle", x -> Due.read(x, "p0,0,0,4"), x -> x.told(5), 1);
    }

    private static void nearestFewest() {
        due.promise("13, Terms NEAREST: 'of MOVES that aren't in THE GROUP that with the fewest MOVED'");
        due.keeps("move 2 moves one", SetUps::rich, x -> x.told(7), 2);
        due.keeps("1 moves two, 2 one", x -> Due.read(x, "p1,0,0,0;p-1,0,0,1;p0,1,0,0"), x -> x.told(7), 2);
        due.keeps("the last of all: 47 alone moves so few as two",
                x -> Due.read(x, "p3,1,2,0;p-2,-1,-3,0;p2,1,3,0;p1,2,3,0;p-3,-2,-1,0;p3,0,0,0"), x -> x.told(7), 47);
        due.keeps("those in it don't count, though they move none", SetUps::rod, x -> x.told(7), 8);
    }

    private static void nearestOfSeveral() {
        due.promise("13, Terms NEAREST: 'of several the least'");
        due.keeps("every other one moves one", x -> x.point(1, 2, 3, 0), x -> x.told(7), 1);
        due.keeps("every other one moves all five", SetUps::unlike, x -> x.told(7), 1);
        due.keeps("every move but eight moves all eight", SetUps::eightTurns, x -> x.told(7), 1);
        due.keeps("by it all eight are moved", SetUps::eightTurns, x -> x.move(1, 3), 8);
        due.keeps("4 to 7 and others move one", x -> x.point(0, 0, 1, 0), x -> x.told(7), 4);
    }

    private static void nearestAll() {
        due.promise("13, Terms NEAREST: '(-5: all are in it)'");
        due.keeps("without points", SetUps::bare, x -> x.told(7), -5);
        due.keeps("one at the middle", x -> x.point(0, 0, 0, 2), x -> x.told(7), -5);
        due.keeps("eight corners", SetUps::corners, x -> x.told(7), -5);
        due.keeps("all but one mark: 1 is the least", x -> {
            SetUps.corners(x);
            x.mark(7, 1);
        }, x -> x.told(7), 1);
    }

    // ---- 14

    private static void groupWithoutPoints() {
        due.promise("14, Terms 'by numbers (without POINTS all 48)'");
        ShapeMoves x = new ShapeMoves();
        for (int k = 0; k < 48; k++) {
            due.is("group(" + k + ")", x.group(k), k);
        }
        due.is("no more", x.group(48), -5);
    }

    private static void groupEnd() {
        due.promise("14 'The k-th (from 0) of THE GROUP; -5'");
        int[] four = {0, 1, 4, 5, -5, -5};
        for (int i = 0; i < four.length; i++) {
            int k = i;
            due.keeps("group(" + k + ")", SetUps::rich, x -> x.group(k), four[k]);
        }
        due.keeps("one alone", SetUps::oneSided, x -> x.group(0), 0);
        due.keeps("no second", SetUps::oneSided, x -> x.group(1), -5);
        due.keeps("the 48th", SetUps::crowded, x -> x.group(47), 47);
        due.keeps("no 49th", SetUps::crowded, x -> x.group(48), -5);
        due.keeps("far behind", SetUps::crowded, x -> x.group(MOST), -5);
        due.keeps("256", SetUps::crowded, x -> x.group(256), -5);
    }

    private static void groupNone() {
        due.promise("14 'NONE: k is below 0'");
        isNone("-1", x -> x.group(-1));
        isNone("-5", x -> x.group(-5));
        isNone("far below", x -> x.group(LEAST));
    }

    private static void groupSameMark() {
        due.promise("14, Terms KEEPS: 'to that of a POINT with the same MARK'");
        due.keeps("unlike marks: 1 isn't in it", SetUps::mixed, x -> x.group(1), 2);
        due.keeps("like marks: 1 is", SetUps::rod, x -> x.group(1), 1);
    }
}
