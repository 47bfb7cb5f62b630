import java.util.function.Consumer;
import java.util.function.ToLongFunction;

/**
 * Promises 15 to 20, and what the Terms say of CLASSES, MOTIONS and SIGNS: each sentence that
 * names a boundary has a test of its own, named by the sentence.
 */
public final class ClassesEdgesTest {
    private static final int LEAST = Integer.MIN_VALUE;
    private static final int MOST = Integer.MAX_VALUE;
    /** No moves, motions or numbers of signs; of some the lowest bits are. */
    private static final int[] FAR = {LEAST, MOST, 256, 65536, -48, -256, LEAST + 1, 64, 100};
    private static final Due due = new Due("ClassesEdgesTest");

    public static void main(String[] args) {
        classOfNone();
        classOfState();
        classOfInOrder();
        classOfLeast();
        classOfHowMany();
        classAtEnd();
        classAtNone();
        motionRefused();
        motionWithoutPoints();
        motionOfEight();
        motionPairs();
        signRefused();
        signNotSoMany();
        signFirst();
        signsInOrder();
        signsOfProducts();
        hasRefused();
        hasBelowNought();
        hasByHowMany();
        activeNone();
        activeMoreOftenThanNought();
        activeNeither();
        activeEachOnce();
        due.end();
    }

    private static void isSo(String call, ToLongFunction<ShapeMoves> asked, long want) {
        due.keeps(call, SetUps::rich, asked, want);
        due.keeps(call + ", without points", SetUps::bare, asked, want);
    }

    // ---- 15

    private static void classOfNone() {
        due.promise("15 'NONE: move, what'");
        isSo("move 0", x -> x.classOf(0, 0), 0);
        due.keeps("move 47", SetUps::corners, x -> x.classOf(47, 1), 6);
        isSo("move -1", x -> x.classOf(-1, 0), -1);
        isSo("move 48", x -> x.classOf(48, 0), -1);
        isSo("move -1, how many", x -> x.classOf(-1, 1), -1);
        isSo("move 48, how many", x -> x.classOf(48, 1), -1);
        isSo("what -1", x -> x.classOf(0, -1), -1);
        isSo("what 2", x -> x.classOf(0, 2), -1);
        isSo("both", x -> x.classOf(48, 2), -1);
        for (int far : FAR) {
            isSo("move " + far, x -> x.classOf(far, 0), -1);
            isSo("what " + far, x -> x.classOf(0, far), -1);
        }
    }

    private static void classOfState() {
        due.promise("15 'STATE: it isn't in THE GROUP'");
        int[] wants = {0, 1, -3, -3, 4, 5, -3, -3, -3};
        for (int i = 0; i < wants.length; i++) {
            int move = i;
            due.keeps("move " + move, SetUps::rich, x -> x.classOf(move, 0), wants[move]);
            due.keeps("move " + move + ", how many", SetUps::rich, x -> x.classOf(move, 1),
                    wants[move] < 0 ? -3 : 1);
        }
        due.keeps("the last move", SetUps::rich, x -> x.classOf(47, 0), -3);
        due.keeps("the least in a group of one", SetUps::oneSided, x -> x.classOf(1, 0), -3);
    }

    private static void classOfInOrder() {
        due.promise("15 NONE, STATE: 'the first that a call's words name'");
        due.keeps("what 2 of one that isn't in it", SetUps::rich, x -> x.classOf(2, 2), -1);
        due.keeps("what -1 of one that isn't in it", SetUps::rich, x -> x.classOf(47, -1), -1);
    }

    private static void classOfLeast() {
        due.promise("15, Terms CLASS: 'told by the least of it'; by 'h of THE GROUP' alone");
        int[] moves = {0, 1, 2, 4, 3, 6, 7, 11, 47, 31, 39, 46};
        int[] all = {0, 1, 1, 1, 3, 3, 7, 11, 9, 25, 25, 11};
        for (int i = 0; i < moves.length; i++) {
            int move = moves[i];
            due.keeps("all 48: class of " + move, SetUps::corners, x -> x.classOf(move, 0), all[i]);
        }
        for (int i = 0; i < 8; i++) {
            int move = i;
            due.keeps("eight that change places freely: " + i, SetUps::cross, x -> x.classOf(move, 0), move);
        }
        due.keeps("of a group of one", SetUps::oneSided, x -> x.classOf(0, 0), 0);
        // of the rod's 16 moves none takes Z to another axis: 1 and 2 are alike, 4 isn't
        int[] rod = {0, 1, 1, 3, 4, 5, 5, 7};
        for (int i = 0; i < 8; i++) {
            int move = i;
            due.keeps("rod: class of " + i, SetUps::rod, x -> x.classOf(move, 0), rod[move]);
        }
    }

    private static void classOfHowMany() {
        due.promise("15 'how many are in it (1)'");
        int[] moves = {0, 1, 3, 7, 8, 9, 10, 11, 24, 25};
        int[] counts = {1, 3, 3, 1, 6, 6, 6, 6, 8, 8};
        for (int i = 0; i < moves.length; i++) {
            int move = moves[i];
            due.keeps("of " + move, SetUps::corners, x -> x.classOf(move, 1), counts[i]);
        }
        due.keeps("one alone", SetUps::oneSided, x -> x.classOf(0, 1), 1);
        due.keeps("rod: two", SetUps::rod, x -> x.classOf(2, 1), 2);
        due.keeps("rod: one", SetUps::rod, x -> x.classOf(4, 1), 1);
    }

    // ---- 16

    private static void classAtEnd() {
        due.promise("16 'its least; -5'; Terms CLASSES: 'by their least, the least first'");
        int[] all = {0, 1, 3, 7, 8, 9, 10, 11, 24, 25, -5, -5};
        int[] rod = {0, 1, 3, 4, 5, 7, 16, 17, 20, 21, -5};
        for (int i = 0; i < all.length; i++) {
            int k = i;
            isSoAt(SetUps::bare, k, all[k]);
            isSoAt(SetUps::crowded, k, all[k]);
        }
        for (int k = 0; k < rod.length; k++) {
            isSoAt(SetUps::rod, k, rod[k]);
        }
        isSoAt(SetUps::oneSided, 0, 0);
        isSoAt(SetUps::oneSided, 1, -5);
        isSoAt(SetUps::crowded, 47, -5);
        isSoAt(SetUps::crowded, 48, -5);
        isSoAt(SetUps::crowded, 256, -5);
        isSoAt(SetUps::crowded, MOST, -5);
    }

    private static void isSoAt(Consumer<ShapeMoves> setUp, int k, int want) {
        due.keeps("classAt(" + k + ")", setUp, x -> x.classAt(k), want);
    }

    private static void classAtNone() {
        due.promise("16 'NONE: k is below 0'");
        isSo("-1", x -> x.classAt(-1), -1);
        isSo("-5", x -> x.classAt(-5), -1);
        isSo("far below", x -> x.classAt(LEAST), -1);
    }

    // ---- 17

    private static void motionRefused() {
        due.promise("17 '-1000: motion (0 .. 5), move, it isn't in THE GROUP'");
        int[] atMiddle = {3, 9, 3, 3, 3, 6};
        for (int i = 0; i < 6; i++) {
            int motion = i;
            due.keeps("motion " + i, SetUps::rich, x -> x.motion(motion, 0), atMiddle[motion]);
            isSo("move -1 of motion " + i, x -> x.motion(motion, -1), -1000);
            isSo("move 48 of motion " + i, x -> x.motion(motion, 48), -1000);
            due.keeps("not in it", SetUps::rich, x -> x.motion(motion, 2), -1000);
            due.keeps("not in it, the last", SetUps::rich, x -> x.motion(motion, 47), -1000);
        }
        due.keeps("the last move", SetUps::corners, x -> x.motion(2, 47), -1);
        isSo("motion -1", x -> x.motion(-1, 0), -1000);
        isSo("motion 6", x -> x.motion(6, 0), -1000);
        isSo("both", x -> x.motion(6, 48), -1000);
        for (int far : FAR) {
            isSo("motion " + far, x -> x.motion(far, 0), -1000);
            isSo("move " + far, x -> x.motion(0, far), -1000);
        }
    }

    /** POINTS, ALL, SHIFTS, TURNS, INNER, PAIRS. */
    private static void motions(String name, Consumer<ShapeMoves> setUp, int move, int... wants) {
        for (int i = 0; i < wants.length; i++) {
            int motion = i;
            due.keeps(name + ": motion(" + motion + ", " + move + ")", setUp, x -> x.motion(motion, move),
                    wants[motion]);
        }
    }

    private static void motionWithoutPoints() {
        due.promise("17, Terms MOTIONS, without POINTS: 'how many stay where they are' is 0");
        motions("bare", SetUps::bare, 0, 0, 0, 3, 3, -6, 6);
        motions("bare", SetUps::bare, 7, 0, 0, -3, 3, 0, 6);
        motions("bare", SetUps::bare, 24, 0, 0, 0, 0, 0, 0);
        motions("bare", SetUps::bare, 1, 0, 0, 1, -1, 0, 2);
    }

    private static void motionOfEight() {
        due.promise("17, Terms MOTIONS, of eight POINTS");
        motions("all stay", SetUps::corners, 0, 8, 24, 3, 3, 18, 6);
        motions("all go to the opposite", SetUps::corners, 7, 0, 0, -3, 3, 0, 6);
        motions("two stay", SetUps::corners, 24, 2, 0, 0, 0, 0, 0);
        motions("four stay by a mirror", SetUps::corners, 8, 4, 4, 1, -1, 4, 2);
        motions("none stays by half a turn", SetUps::corners, 3, 0, 0, -1, -1, 2, 2);
        motions("none stays by a quarter of a turn", SetUps::corners, 10, 0, 0, 1, 1, -2, 0);
    }

    private static void motionPairs() {
        due.promise("17, Terms PAIRS: 'TRACE times TRACE, and TRACE of the PRODUCT .., together, by 2"
                + " (there is no rest)'");
        int[] moves = {0, 1, 3, 7, 8, 9, 10, 11, 24, 25};
        int[] pairs = {6, 2, 2, 6, 2, 2, 0, 0, 0, 0};
        for (int i = 0; i < moves.length; i++) {
            int move = moves[i];
            due.keeps("of " + move, SetUps::bare, x -> x.motion(5, move), pairs[i]);
        }
    }

    // ---- 18

    private static void signRefused() {
        due.promise("18 '0: .. k is below 0, no such MOVE, it isn't in THE GROUP'");
        isSo("k 0, move 0", x -> x.sign(0, 0), 1);
        due.keeps("k 0, move 47", SetUps::corners, x -> x.sign(0, 47), 1);
        isSo("k -1", x -> x.sign(-1, 0), 0);
        isSo("move -1", x -> x.sign(0, -1), 0);
        isSo("move 48", x -> x.sign(0, 48), 0);
        isSo("both", x -> x.sign(-1, 48), 0);
        due.keeps("not in it", SetUps::rich, x -> x.sign(0, 2), 0);
        due.keeps("not in it, the last", SetUps::rich, x -> x.sign(3, 47), 0);
        for (int far : FAR) {
            isSo("k " + far, x -> x.sign(far, 0), 0);
            isSo("move " + far, x -> x.sign(0, far), 0);
        }
    }

    private static void ends(String name, Consumer<ShapeMoves> setUp, int signs) {
        due.keeps(name + ": SIGNS OF THE GROUP", setUp, x -> x.told(6), signs);
        due.keeps(name + ": the last", setUp, x -> x.sign(signs - 1, 0), 1);
        due.keeps(name + ": no more", setUp, x -> x.sign(signs, 0), 0);
        due.keeps(name + ": no more of 7 or 3", setUp, x -> x.sign(signs, 7) + x.sign(signs, 3), 0);
        due.keeps(name + ": the last, HAS", setUp, x -> x.has(2, signs - 1) == -1000 ? 1 : 0, 0);
        due.keeps(name + ": no more, HAS", setUp, x -> x.has(2, signs), -1000);
    }

    private static void signNotSoMany() {
        due.promise("18 '0: there are not so many'; 19 '-1000: .. k'");
        ends("one alone", SetUps::oneSided, 1);
        ends("a mirror", SetUps::mirror, 2);
        ends("four turns", SetUps::pinwheel, 2);
        ends("two mirrors", SetUps::rich, 4);
        ends("all 48", SetUps::bare, 4);
        ends("three mirrors", SetUps::cross, 8);
        ends("rod", SetUps::rod, 8);
        ends("three turns", x -> Due.read(x, "p1,2,3,0;p2,3,1,0;p3,1,2,0"), 1);
    }

    private static void signFirst() {
        due.promise("18, Terms SIGNS: '(so the first has 1 everywhere)'");
        for (int i = 0; i < 48; i++) {
            int move = i;
            due.keeps("of " + i, SetUps::bare, x -> x.sign(0, move), 1);
        }
        due.keeps("one that isn't in it", SetUps::rich, x -> x.sign(0, 3), 0);
    }

    private static void signs(String name, Consumer<ShapeMoves> setUp, int move, int... wants) {
        for (int i = 0; i < wants.length; i++) {
            int k = i;
            due.keeps(name + ": sign(" + k + ", " + move + ")", setUp, x -> x.sign(k, move), wants[k]);
        }
    }

    private static void signsInOrder() {
        due.promise("18, Terms SIGNS: 'that is ahead that has 1 at the first of THE GROUP where they are unlike'");
        signs("two mirrors", SetUps::rich, 1, 1, 1, -1, -1, 0);
        signs("two mirrors", SetUps::rich, 4, 1, -1, 1, -1, 0);
        signs("two mirrors", SetUps::rich, 5, 1, -1, -1, 1, 0);
        signs("three mirrors", SetUps::cross, 1, 1, 1, 1, 1, -1, -1, -1, -1, 0);
        signs("three mirrors", SetUps::cross, 2, 1, 1, -1, -1, 1, 1, -1, -1, 0);
        signs("three mirrors", SetUps::cross, 4, 1, -1, 1, -1, 1, -1, 1, -1, 0);
        signs("three mirrors", SetUps::cross, 7, 1, -1, -1, 1, -1, 1, 1, -1, 0);
        signs("four turns", SetUps::pinwheel, 3, 1, 1, 0);
        signs("four turns", SetUps::pinwheel, 17, 1, -1, 0);
        signs("rod", SetUps::rod, 1, 1, 1, 1, 1, -1, -1, -1, -1, 0);
        signs("rod", SetUps::rod, 4, 1, 1, -1, -1, 1, 1, -1, -1, 0);
        signs("rod", SetUps::rod, 16, 1, -1, 1, -1, 1, -1, 1, -1, 0);
        signs("all 48", SetUps::bare, 1, 1, 1, -1, -1, 0);
        signs("all 48", SetUps::bare, 8, 1, -1, 1, -1, 0);
        signs("all 48", SetUps::bare, 3, 1, 1, 1, 1, 0);
    }

    private static void signsOfProducts() {
        due.promise("18, Terms 'the PRODUCT of any two has what theirs are, multiplied'");
        int[] rod = {0, 1, 3, 4, 7, 16, 17, 21, 23};
        for (int k = 0; k < 8; k++) {
            ShapeMoves x = new ShapeMoves();
            SetUps.rod(x);
            for (int a : rod) {
                for (int b : rod) {
                    due.is("sign " + k + " of " + a + " and " + b, x.sign(k, x.product(a, b)),
                            x.sign(k, a) * x.sign(k, b));
                }
            }
        }
    }

    // ---- 19

    private static void hasRefused() {
        due.promise("19 '-1000: motion, k'");
        int[] firsts = {2, 3, 1, 0, 2, 3};
        for (int i = 0; i < 6; i++) {
            int motion = i;
            due.keeps("motion " + i, SetUps::rich, x -> x.has(motion, 0), firsts[motion]);
            isSo("k -1 of motion " + i, x -> x.has(motion, -1), -1000);
            isSo("k 4 of four, motion " + i, x -> x.has(motion, 4), -1000);
        }
        isSo("motion -1", x -> x.has(-1, 0), -1000);
        isSo("motion 6", x -> x.has(6, 0), -1000);
        isSo("both", x -> x.has(6, 4), -1000);
        for (int far : FAR) {
            isSo("motion " + far, x -> x.has(far, 0), -1000);
            isSo("k " + far, x -> x.has(0, far), -1000);
        }
    }

    private static void hasBelowNought() {
        due.promise("19, Terms HAS: 'it may be below 0 for INNER'");
        due.keeps("one point, one move: 3 less 6", x -> x.point(1, 2, 3, 0), x -> x.has(4, 0), -3);
        due.keeps("a rod has no turn about itself", SetUps::rod, x -> x.has(4, 5), -1);
        due.keeps("without points: the last sign", SetUps::bare, x -> x.has(4, 3), 0);
        due.keeps("one at the middle", x -> x.point(0, 0, 0, 0), x -> x.has(4, 3), 0);
        due.keeps("one point above: INNER with 1 everywhere", x -> x.point(0, 0, 1, 0), x -> x.has(4, 0), 0);
        due.keeps("one point beside a mirror", x -> x.point(1, 2, 0, 0), x -> x.has(4, 0), -1);
        due.keeps("with the other sign", x -> x.point(1, 2, 0, 0), x -> x.has(4, 1), -2);
    }

    private static void hasByHowMany() {
        due.promise("19, Terms HAS: 'together, by how many are in THE GROUP (there is no rest)'");
        due.keeps("all 48: PAIRS with 1 everywhere", SetUps::bare, x -> x.has(5, 0), 1);
        due.keeps("one alone: all eight points", SetUps::oneSided, x -> x.has(0, 0), 8);
        due.keeps("one alone: ALL", SetUps::oneSided, x -> x.has(1, 0), 24);
        due.keeps("one alone: INNER", SetUps::oneSided, x -> x.has(4, 0), 18);
        due.keeps("POINTS: so many as ORBITS", SetUps::rich, x -> x.has(0, 0), 2);
        due.keeps("POINTS with the second mirror's sign", SetUps::rich, x -> x.has(0, 1), 0);
        due.keeps("POINTS with the first mirror's sign", SetUps::rich, x -> x.has(0, 2), 1);
    }

    // ---- 20

    private static void activeNone() {
        due.promise("20 'NONE'");
        isSo("what -1", x -> x.active(-1), -1);
        isSo("what 3", x -> x.active(3), -1);
        for (int far : FAR) {
            isSo("what " + far, x -> x.active(far), -1);
        }
    }

    private static void activeMoreOftenThanNought() {
        due.promise("20, Terms ACTIVE: 'SIGNS (bits, by their numbers) that SHIFTS HAS more often than 0'");
        due.keeps("all 48: none", SetUps::bare, x -> x.active(0), 0);
        due.keeps("all 48: PAIRS the first", SetUps::bare, x -> x.active(1), 1);
        due.keeps("one alone: the first, thrice", SetUps::oneSided, x -> x.active(0), 1);
        due.keeps("one alone: PAIRS", SetUps::oneSided, x -> x.active(1), 1);
        due.keeps("a mirror: both", SetUps::mirror, x -> x.active(0), 3);
        due.keeps("a mirror: PAIRS both", SetUps::mirror, x -> x.active(1), 3);
        due.keeps("a centre: the second alone", x -> Due.read(x, "p1,2,3,0;p-1,-2,-3,0"), x -> x.active(0), 2);
        due.keeps("a centre: PAIRS the first", x -> Due.read(x, "p1,2,3,0;p-1,-2,-3,0"), x -> x.active(1), 1);
        due.keeps("three mirrors", SetUps::cross, x -> x.active(0), 2 + 4 + 16);
        due.keeps("three mirrors: PAIRS", SetUps::cross, x -> x.active(1), 1 + 8 + 32 + 64);
    }

    private static void activeNeither() {
        due.promise("20, Terms ACTIVE: 'neither (2)'");
        due.keeps("all 48: all but the first", SetUps::bare, x -> x.active(2), 14);
        due.keeps("one alone: none", SetUps::oneSided, x -> x.active(2), 0);
        due.keeps("three mirrors: the last", SetUps::cross, x -> x.active(2), 128);
        due.keeps("rod", SetUps::rod, x -> x.active(2), 8 + 32 + 64 + 128);
        due.keeps("two mirrors: none", SetUps::rich, x -> x.active(2), 0);
        due.keeps("a centre: none", x -> Due.read(x, "p1,2,3,0;p-1,-2,-3,0"), x -> x.active(2), 0);
    }

    private static void activeEachOnce() {
        due.promise("20, Terms ACTIVE: a sign can be both SHIFTS' and PAIRS', none is neither and one");
        due.keeps("two mirrors: SHIFTS", SetUps::rich, x -> x.active(0), 1 + 2 + 4);
        due.keeps("two mirrors: PAIRS", SetUps::rich, x -> x.active(1), 1 + 2 + 4 + 8);
        due.keeps("one marked corner: neither", x -> {
            SetUps.corners(x);
            x.mark(7, 1);
        }, x -> x.active(2), 2);
    }
}
