import java.util.function.ToLongFunction;

/**
 * Promises 1 to 7, and what the Terms say of POINTS: each sentence that names a boundary has a
 * test of its own, named by the sentence.
 */
public final class PointsEdgesTest {
    private static final int LEAST = Integer.MIN_VALUE;
    private static final int MOST = Integer.MAX_VALUE;
    /** Not as told wherever -3 .. 3 or 0 .. 4 is, though their lowest bits are. */
    private static final int[] FAR = {LEAST, MOST, 256, 65536, -256, LEAST + 1, 100};
    private static final Due due = new Due("PointsEdgesTest");

    public static void main(String[] args) {
        noPoints();
        nothingShared();
        pointNumbers();
        pointBadPlace();
        pointBadMark();
        pointState();
        pointFull();
        pointInOrder();
        markWas();
        markNone();
        markBad();
        markInOrder();
        dropLeft();
        dropNumbersLess();
        dropRowsStay();
        dropNone();
        ofNotTold();
        ofOrbit();
        atNone();
        atBad();
        feedHas();
        feedBad();
        feedFull();
        feedInOrder();
        due.end();
    }

    // ---- 1

    private static void noPoints() {
        due.promise("1 'No POINTS.'");
        due.keeps("told(0)", SetUps::bare, x -> x.told(0), 0);
        due.keeps("ORBITS", SetUps::bare, x -> x.told(3), 0);
        due.keeps("mark(0, 0)", SetUps::bare, x -> x.mark(0, 0), -1);
        due.keeps("drop(0)", SetUps::bare, x -> x.drop(0), -1);
        due.keeps("takes(0, 0)", SetUps::bare, x -> x.takes(0, 0), -1);
        due.keeps("fits(0, 0)", SetUps::bare, x -> x.fits(0, 0), -1);
        due.keeps("odds(0, 0, 0)", SetUps::bare, x -> x.odds(0, 0, 0), ShapeMoves.NO);
        due.keeps("image()", SetUps::image, x -> x.image(), 0);
        for (int what = 0; what < 5; what++) {
            int asked = what;
            due.keeps("of(0, " + what + ")", SetUps::bare, x -> x.of(0, asked), -9);
        }
        ShapeMoves x = new ShapeMoves();
        for (int place = 0; place < 343; place++) {
            int a = place / 49 - 3;
            int b = place / 7 % 7 - 3;
            int c = place % 7 - 3;
            due.is("at(" + a + ", " + b + ", " + c + ")", x.at(a, b, c), -5);
        }
    }

    private static void nothingShared() {
        due.promise("1 'A new object'");
        ShapeMoves first = new ShapeMoves();
        ShapeMoves crowded = new ShapeMoves();
        SetUps.crowded(crowded);
        ShapeMoves last = new ShapeMoves();
        String want = " points 0 told 48 told 10 told 0 told 0 told 1 told 4 told -5 last orbit -9 mean 53"
                + " active 1 inner 0 count 0 count 0 count 0 count 0 after 48 after 10 after 0"
                + " fits -1 fits -1 fits -1 fits -1 looked -5";
        String told = Whole.of(first);
        due.isSame("an object made ahead of another", told.substring(0, want.length()), want);
        due.isSame("an object made behind another", Whole.of(last), told);
        due.is("the other has its points", crowded.told(0), 8);
    }

    // ---- 2

    private static void pointNumbers() {
        due.promise("2 'A POINT comes: its number'; 'POINTS 0 .. 7, as they come'");
        ShapeMoves x = new ShapeMoves();
        for (int i = 0; i < 8; i++) {
            due.is("number " + i, x.point(3 - i % 7, i / 7, -3, i % 5), i);
            due.is("so many then", x.told(0), i + 1);
        }
        for (int i = 0; i < 8; i++) {
            due.is("its X", x.of(i, 0), 3 - i % 7);
            due.is("its MARK", x.of(i, 3), i % 5);
        }
    }

    private static long pointOn(ShapeMoves x, int axis, int v) {
        return x.point(axis == 0 ? v : 0, axis == 1 ? v : 0, axis == 2 ? v : 0, 0);
    }

    private static void pointBadPlace() {
        due.promise("2 'BAD: x, y, z'; 'X, Y, Z (-3 .. 3 each'");
        for (int i = 0; i < 3; i++) {
            int axis = i;
            for (int v = -3; v <= 3; v += 6) {
                ShapeMoves x = new ShapeMoves();
                due.is("axis " + axis + " is " + v, pointOn(x, axis, v), 0);
                due.is("it is so", x.of(0, axis), v);
            }
            due.keeps("axis " + axis + " is -4", SetUps::rich, x -> pointOn(x, axis, -4), -2);
            due.keeps("axis " + axis + " is 4", SetUps::rich, x -> pointOn(x, axis, 4), -2);
            for (int far : FAR) {
                due.keeps("axis " + axis + " is " + far, SetUps::rich, x -> pointOn(x, axis, far), -2);
            }
        }
    }

    private static void pointBadMark() {
        due.promise("2 'BAD: .. mark'; 'a MARK (0 .. 4)'");
        for (int v = 0; v <= 4; v += 4) {
            ShapeMoves x = new ShapeMoves();
            due.is("mark " + v, x.point(0, 0, 0, v), 0);
            due.is("it is so", x.of(0, 3), v);
        }
        due.keeps("mark -1", SetUps::rich, x -> x.point(0, 0, 0, -1), -2);
        due.keeps("mark 5", SetUps::rich, x -> x.point(0, 0, 0, 5), -2);
        for (int far : FAR) {
            due.keeps("mark " + far, SetUps::rich, x -> x.point(0, 0, 0, far), -2);
        }
    }

    private static void pointState() {
        due.promise("2 'STATE: one is there'; 'no two at one'");
        due.keeps("where the first is", SetUps::rich, x -> x.point(1, 0, 0, 1), -3);
        due.keeps("where the last is, another mark", SetUps::rich, x -> x.point(0, 2, 0, 0), -3);
        due.keeps("without a point there", SetUps::bare, x -> x.point(9, 9, 9, 9), -2);
        for (int i = 0; i < 3; i++) {
            ShapeMoves x = new ShapeMoves();
            x.point(1, 1, 1, 0);
            due.is("another place by axis " + i + " alone",
                    x.point(i == 0 ? 2 : 1, i == 1 ? 2 : 1, i == 2 ? 2 : 1, 0), 1);
        }
        ShapeMoves y = new ShapeMoves();
        y.point(1, 1, 1, 0);
        y.drop(0);
        due.is("none is there any more", y.point(1, 1, 1, 0), 0);
    }

    private static void pointFull() {
        due.promise("2 'FULL: 8'");
        ShapeMoves x = new ShapeMoves();
        SetUps.corners(x);
        x.drop(7);
        due.is("the eighth comes", x.point(0, 0, 0, 0), 7);
        due.is("the ninth doesn't", x.point(0, 0, 1, 0), -4);
        due.is("one goes", x.drop(0), 7);
        due.is("another comes", x.point(0, 0, 1, 0), 7);
        due.keeps("a ninth", SetUps::crowded, y -> y.point(0, 0, 0, 0), -4);
        due.keeps("a ninth far out", SetUps::crowded, y -> y.point(3, -3, 3, 4), -4);
    }

    private static void pointInOrder() {
        due.promise("2 BAD, STATE, FULL: 'the first that a call's words name'");
        due.keeps("BAD ahead of STATE", SetUps::rich, x -> x.point(1, 0, 0, 5), -2);
        due.keeps("BAD (place) ahead of FULL", SetUps::crowded, x -> x.point(0, 0, 4, 0), -2);
        due.keeps("BAD (mark) ahead of FULL", SetUps::crowded, x -> x.point(0, 0, 0, 5), -2);
        due.keeps("STATE ahead of FULL", SetUps::crowded, x -> x.point(1, 1, 1, 0), -3);
        due.keeps("STATE (the last point) ahead of FULL", SetUps::crowded, x -> x.point(-1, -1, -1, 0), -3);
        due.keeps("BAD ahead of both", SetUps::crowded, x -> x.point(1, 1, 1, -1), -2);
    }

    // ---- 3

    private static void markWas() {
        due.promise("3 'MARK of a POINT becomes v: what it was'");
        ShapeMoves x = new ShapeMoves();
        SetUps.rich(x);
        int[] marks = {0, 4, 4, 0, 1, 3};
        int was = 3;
        for (int v : marks) {
            due.is("mark(2, " + v + ")", x.mark(2, v), was);
            due.is("it is so", x.of(2, 3), v);
            was = v;
        }
        due.is("the one ahead stays", x.of(1, 3), 1);
        due.keeps("the same again", SetUps::rich, y -> y.mark(0, 1), 1);
    }

    private static void markNone() {
        due.promise("3 'NONE'");
        due.keeps("the last is there", SetUps::rich, x -> x.mark(2, 3), 3);
        due.keeps("-1", SetUps::rich, x -> x.mark(-1, 0), -1);
        due.keeps("3 of three", SetUps::rich, x -> x.mark(3, 0), -1);
        due.keeps("7 is there, of eight", SetUps::crowded, x -> x.mark(7, 0), 0);
        due.keeps("8 of eight", SetUps::crowded, x -> x.mark(8, 0), -1);
        for (int far : FAR) {
            due.keeps("far", SetUps::crowded, x -> x.mark(far, 1), -1);
        }
        ShapeMoves y = new ShapeMoves();
        SetUps.rich(y);
        y.drop(0);
        due.is("no more by that number, as one went", y.mark(2, 0), -1);
    }

    private static void markBad() {
        due.promise("3 'BAD'");
        due.keeps("-1", SetUps::rich, x -> x.mark(0, -1), -2);
        due.keeps("5", SetUps::rich, x -> x.mark(0, 5), -2);
        for (int far : FAR) {
            due.keeps("far", SetUps::rich, x -> x.mark(2, far), -2);
        }
    }

    private static void markInOrder() {
        due.promise("3 NONE, BAD: 'the first that a call's words name'");
        due.keeps("no such point, 5", SetUps::rich, x -> x.mark(3, 5), -1);
        due.keeps("point -1, -1", SetUps::rich, x -> x.mark(-1, -1), -1);
        due.keeps("no points, 5", SetUps::bare, x -> x.mark(0, 5), -1);
    }

    // ---- 4

    private static void dropLeft() {
        due.promise("4 'how many are left'");
        ShapeMoves x = new ShapeMoves();
        SetUps.corners(x);
        for (int left = 7; left >= 0; left--) {
            due.is("the first goes", x.drop(0), left);
            due.is("so many", x.told(0), left);
        }
        due.is("of none", x.drop(0), -1);
        SetUps.corners(x);
        for (int left = 7; left >= 0; left--) {
            due.is("the last goes", x.drop(left), left);
        }
        due.is("none is left", x.told(0), 0);
    }

    /** Points 0 .. 7 stand at X -3 .. 3 and 3, with Y 1 for the last. */
    private static ShapeMoves eightInARow() {
        ShapeMoves x = new ShapeMoves();
        for (int i = 0; i < 8; i++) {
            x.point(Math.min(i, 6) - 3, i / 7, 0, i % 5);
        }
        return x;
    }

    private static void dropNumbersLess() {
        due.promise("4, Terms 'If one goes, those behind it have numbers 1 less.'");
        for (int gone = 0; gone < 8; gone++) {
            ShapeMoves x = eightInARow();
            due.is("drop(" + gone + ")", x.drop(gone), 7);
            for (int i = 0; i < 7; i++) {
                int old = i < gone ? i : i + 1;
                due.is("X of " + i + " without " + gone, x.of(i, 0), Math.min(old, 6) - 3);
                due.is("Y of " + i + " without " + gone, x.of(i, 1), old / 7);
                due.is("MARK of " + i + " without " + gone, x.of(i, 3), old % 5);
                due.is("at its place", x.at(Math.min(old, 6) - 3, old / 7, 0), i);
            }
            due.is("where it was", x.at(Math.min(gone, 6) - 3, gone / 7, 0), -5);
            due.is("none is 7", x.of(7, 0), -9);
        }
    }

    private static void dropRowsStay() {
        due.promise("4 '(SEEN, EVENTS, the BOOK stay)'");
        ShapeMoves x = new ShapeMoves();
        SetUps.crowded(x);
        due.is("one goes", x.drop(3), 7);
        int[] counts = {5, 8, 8, 100};
        for (int what = 0; what < 4; what++) {
            due.is("count(" + what + ")", x.count(what), counts[what]);
        }
        ShapeMoves y = new ShapeMoves();
        SetUps.rich(y);
        y.drop(2);
        y.drop(1);
        y.drop(0);
        SetUps.corners(y);
        due.is("SEEN told of move 2 not to be: none fits", y.fits(0, 0), 0);
        due.is("the BOOK told what is so", y.looked(), -5);
        due.is("EVENTS take one corner", y.after(0), 6);
        due.is("THE IMAGE stays too", y.undo(), 1);
    }

    private static void dropNone() {
        due.promise("4 'NONE'");
        due.keeps("-1", SetUps::rich, x -> x.drop(-1), -1);
        due.keeps("3 of three", SetUps::rich, x -> x.drop(3), -1);
        due.keeps("8 of eight", SetUps::crowded, x -> x.drop(8), -1);
        due.keeps("0 of none", SetUps::bare, x -> x.drop(0), -1);
        for (int far : FAR) {
            due.keeps("far", SetUps::crowded, x -> x.drop(far), -1);
        }
    }

    // ---- 5

    private static void ofNotTold() {
        due.promise("5 '-9: point, what'");
        due.keeps("X of the first", SetUps::rich, x -> x.of(0, 0), 1);
        due.keeps("ORBIT of the last", SetUps::rich, x -> x.of(2, 4), 2);
        due.keeps("point -1", SetUps::rich, x -> x.of(-1, 0), -9);
        due.keeps("point 3 of three", SetUps::rich, x -> x.of(3, 0), -9);
        due.keeps("point 3 of three, ORBIT", SetUps::rich, x -> x.of(3, 4), -9);
        due.keeps("point 7 of eight", SetUps::crowded, x -> x.of(7, 2), -1);
        due.keeps("point 8 of eight", SetUps::crowded, x -> x.of(8, 2), -9);
        due.keeps("what -1", SetUps::rich, x -> x.of(0, -1), -9);
        due.keeps("what 5", SetUps::rich, x -> x.of(0, 5), -9);
        due.keeps("what -1 of the second", SetUps::rich, x -> x.of(1, -1), -9);
        due.keeps("both", SetUps::rich, x -> x.of(3, 5), -9);
        for (int far : FAR) {
            due.keeps("far point", SetUps::crowded, x -> x.of(far, 0), -9);
            due.keeps("far what", SetUps::crowded, x -> x.of(0, far), -9);
        }
    }

    private static void ofOrbit() {
        due.promise("5, Terms ORBIT: 'all POINTS to which THE GROUP takes it; told by the least'");
        due.keeps("with one ahead of it", SetUps::rich, x -> x.of(1, 4), 0);
        due.keeps("the least itself", SetUps::rich, x -> x.of(0, 4), 0);
        due.keeps("alone, behind others", SetUps::rich, x -> x.of(2, 4), 2);
        due.keeps("all eight are one", SetUps::crowded, x -> x.of(7, 4), 0);
        ShapeMoves x = new ShapeMoves();
        SetUps.corners(x);
        x.mark(3, 2);
        // corner 3 is (1, -1, -1): three are beside it, three across, one is opposite
        int[] orbits = {0, 1, 1, 3, 4, 0, 0, 1};
        for (int i = 0; i < 8; i++) {
            due.is("one marked corner: ORBIT of " + i, x.of(i, 4), orbits[i]);
        }
    }

    // ---- 6

    private static void atNone() {
        due.promise("6 '-5: none'");
        due.keeps("the first", SetUps::rich, x -> x.at(1, 0, 0), 0);
        due.keeps("the last", SetUps::rich, x -> x.at(0, 2, 0), 2);
        due.keeps("none", SetUps::rich, x -> x.at(0, -2, 0), -5);
        due.keeps("the eighth", SetUps::crowded, x -> x.at(-1, -1, -1), 7);
        due.keeps("none of eight", SetUps::crowded, x -> x.at(0, 0, 0), -5);
        ShapeMoves x = new ShapeMoves();
        SetUps.rich(x);
        x.drop(2);
        due.is("what went isn't found", x.at(0, 2, 0), -5);
    }

    private static void atBad() {
        due.promise("6 'BAD'");
        for (int i = 0; i < 3; i++) {
            int axis = i;
            for (int v = -4; v <= 4; v++) {
                int asked = v;
                boolean isOut = v == -4 || v == 4;
                due.keeps("axis " + axis + " is " + v, SetUps::image, x -> atOn(x, axis, asked), isOut ? -2 : -5);
            }
            for (int far : FAR) {
                due.keeps("axis " + axis + " is " + far, SetUps::rich, x -> atOn(x, axis, far), -2);
            }
        }
    }

    private static long atOn(ShapeMoves x, int axis, int v) {
        return x.at(axis == 0 ? v : 0, axis == 1 ? v : 0, axis == 2 ? v : 0);
    }

    // ---- 7

    private static void feedHas() {
        due.promise("7 'A sign (0 .. 127) comes behind THE TEXT's: how many it has'");
        ShapeMoves x = new ShapeMoves();
        due.is("0", x.feed(0), 1);
        due.is("127", x.feed(127), 2);
        due.is("so many", x.count(3), 2);
        due.is("0 is a sign: the FAULT is there", x.read(), -10);
        due.is("none is left of it", x.feed('d'), 1);
        due.is("the second", x.feed('0'), 2);
        due.is("in their order", x.read(), 0);
        x.feed('0');
        x.feed('d');
        due.is("in the other order", x.read(), -10);
    }

    private static void refused(String call, ToLongFunction<ShapeMoves> fed, long want) {
        due.keeps(call + " behind some", SetUps::rich, fed, want);
        due.keeps(call + " as the first", SetUps::bare, fed, want);
        due.keeps(call + " of a full text: BAD ahead of FULL", SetUps::crowded, fed, want);
    }

    private static void feedBad() {
        due.promise("7 'BAD'");
        refused("-1", x -> x.feed(-1), -2);
        refused("128", x -> x.feed(128), -2);
        refused("p and 256", x -> x.feed('p' + 256), -2);
        refused("p less 256", x -> x.feed('p' - 256), -2);
        refused("far below", x -> x.feed(LEAST), -2);
        refused("far above", x -> x.feed(MOST), -2);
    }

    private static void feedFull() {
        due.promise("7 'FULL'; 'THE TEXT (bytes, 100 at most)'");
        ShapeMoves x = new ShapeMoves();
        SetUps.feed(x, SetUps.TEXT_OF_100.substring(0, 99));
        due.is("99", x.count(3), 99);
        due.is("the 100th comes", x.feed('3'), 100);
        due.is("the 101st doesn't", x.feed('3'), -4);
        due.is("100 stay", x.count(3), 100);
        due.is("they are as they came", x.read(), 10);
        due.is("then there is room", x.feed('d'), 1);
        due.keeps("the 101st, 0", SetUps::crowded, y -> y.feed(0), -4);
        due.keeps("the 101st, 127", SetUps::crowded, y -> y.feed(127), -4);
    }

    private static void feedInOrder() {
        due.promise("7 BAD, FULL: 'the first that a call's words name'");
        due.keeps("128 as the 101st", SetUps::crowded, x -> x.feed(128), -2);
        due.keeps("-1 as the 101st", SetUps::crowded, x -> x.feed(-1), -2);
    }
}
