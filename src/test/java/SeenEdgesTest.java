import java.util.function.Consumer;
import java.util.function.ToLongFunction;

/**
 * Promises 21 to 28, and what the Terms say of SEEN, ODDS, MEAN, EVENTS and the BOOK: each
 * sentence that names a boundary has a test of its own, named by the sentence.
 */
public final class SeenEdgesTest {
    private static final long NO = Long.MIN_VALUE;
    private static final int LEAST = Integer.MIN_VALUE;
    private static final int MOST = Integer.MAX_VALUE;
    /** Not as told wherever a number is asked for; of some the lowest bits are. */
    private static final int[] FAR = {LEAST, MOST, 256, 65536, -48, -256, LEAST + 1, 64, 100};
    private static final Due due = new Due("SeenEdgesTest");

    public static void main(String[] args) {
        seeHowMany();
        seeNoneThen();
        seeNone();
        seeFull();
        seeInOrder();
        fitsNone();
        fitsAll();
        fitsLeast();
        fitsNo();
        fitsAllOfSeen();
        oddsNo();
        oddsWhateverItHas();
        oddsSoManyOrMore();
        oddsLowestTerms();
        meanNo();
        meanLowestTerms();
        eventHowMany();
        eventNoneThen();
        eventNone();
        eventBad();
        eventFull();
        eventInOrder();
        afterNone();
        afterNoEvents();
        afterGoing();
        afterMarks();
        afterTaken();
        afterAllHave();
        afterAllOfIt();
        bookHowMany();
        bookEmptyThen();
        bookNone();
        bookBad();
        bookFull();
        bookInOrder();
        lookedNone();
        lookedFirst();
        lookedNotInIt();
        lookedOrder();
        due.end();
    }

    /** Of some of all, of nothing, and of as much as there can be. */
    private static void everywhere(String call, ToLongFunction<ShapeMoves> asked, long want) {
        due.keeps(call, SetUps::rich, asked, want);
        due.keeps(call + ", of nothing", SetUps::bare, asked, want);
        due.keeps(call + ", where all is full", SetUps::crowded, asked, want);
    }

    // ---- 21

    private static void seeHowMany() {
        due.promise("21 'What is SEEN comes: how many there are'; '(5 rows at most)'");
        ShapeMoves x = new ShapeMoves();
        int[] moves = {0, 47, 47, 47, 1};
        for (int i = 0; i < 5; i++) {
            due.is("see(" + moves[i] + ")", x.see(moves[i], i % 2 == 0), i + 1);
            due.is("so many", x.count(0), i + 1);
        }
        due.is("the sixth doesn't come", x.see(0, true), -4);
        due.is("five stay", x.count(0), 5);
    }

    private static void seeNoneThen() {
        due.promise("21 '(move -1: none then, 0, whatever the rest is)'");
        for (int i = 0; i < 2; i++) {
            boolean is = i == 0;
            due.keeps("of none, " + is, SetUps::bare, x -> x.see(-1, is), 0);
            ShapeMoves x = new ShapeMoves();
            SetUps.crowded(x);
            due.is("five, and one would be FULL", x.see(0, is), -4);
            due.is("none then", x.see(-1, is), 0);
            due.is("none", x.count(0), 0);
            due.is("EVENTS stay", x.count(1), 8);
            due.is("the BOOK stays", x.count(2), 8);
            due.is("all fit again", x.fits(0, 0), 5);
            due.is("it begins again", x.see(3, is), 1);
            due.is("by what came then alone", x.fits(0, 0), is ? 1 : 4);
        }
    }

    private static void seeNone() {
        due.promise("21 'NONE: move'");
        for (int i = 0; i < 2; i++) {
            boolean is = i == 0;
            everywhere("see(-2, " + is + ")", x -> x.see(-2, is), -1);
            everywhere("see(48, " + is + ")", x -> x.see(48, is), -1);
            for (int far : FAR) {
                everywhere("see(" + far + ", " + is + ")", x -> x.see(far, is), -1);
            }
        }
    }

    private static void seeFull() {
        due.promise("21 'FULL: 5'");
        due.keeps("a sixth", SetUps::crowded, x -> x.see(0, true), -4);
        due.keeps("a sixth, that isn't", SetUps::crowded, x -> x.see(47, false), -4);
        ShapeMoves x = new ShapeMoves();
        SetUps.crowded(x);
        due.is("the sixth isn't there", x.see(3, false), -4);
        due.is("by it none would fit", x.fits(7, 0), 1);
    }

    private static void seeInOrder() {
        due.promise("21 NONE, FULL: 'the first that a call's words name'");
        due.keeps("48 as the sixth", SetUps::crowded, x -> x.see(48, true), -1);
        due.keeps("-2 as the sixth", SetUps::crowded, x -> x.see(-2, false), -1);
    }

    // ---- 22

    private static void fitsNone() {
        due.promise("22 'NONE: point, what'");
        due.keeps("the first", SetUps::rich, x -> x.fits(0, 0), 1);
        due.keeps("the last of three", SetUps::rich, x -> x.fits(2, 1), 0);
        due.keeps("point 3 of three", SetUps::rich, x -> x.fits(3, 0), -1);
        due.keeps("the last of eight", SetUps::crowded, x -> x.fits(7, 0), 1);
        everywhere("point -1", x -> x.fits(-1, 0), -1);
        everywhere("point 8", x -> x.fits(8, 0), -1);
        everywhere("what -1", x -> x.fits(0, -1), -1);
        everywhere("what 2", x -> x.fits(0, 2), -1);
        everywhere("both", x -> x.fits(8, 2), -1);
        due.keeps("none is there", SetUps::bare, x -> x.fits(0, 0), -1);
        for (int far : FAR) {
            everywhere("point " + far, x -> x.fits(far, 0), -1);
            everywhere("what " + far, x -> x.fits(0, far), -1);
        }
    }

    /** Points 0 and 1 change places by move 1, with marks a and b; then a row is seen. */
    private static Consumer<ShapeMoves> pair(int a, int b, boolean is) {
        return x -> {
            x.point(1, 0, 0, a);
            x.point(-1, 0, 0, b);
            x.see(1, is);
        };
    }

    private static void fitsAll() {
        due.promise("22 'how many'; Terms FITS: 'how many MARKS 0 .. 4 there are'");
        due.keeps("nothing seen: all", SetUps::mixed, x -> x.fits(0, 0), 5);
        due.keeps("nothing seen: the least", SetUps::mixed, x -> x.fits(1, 1), 0);
        for (int i = 0; i < 5; i++) {
            int b = i;
            due.keeps("as the other's, " + b, pair(0, b, true), x -> x.fits(0, 0), 1);
            due.keeps("unlike the other's, " + b, pair(0, b, false), x -> x.fits(0, 0), 4);
        }
    }

    private static void fitsLeast() {
        due.promise("22 'the least' (1)");
        for (int i = 0; i < 5; i++) {
            int b = i;
            due.keeps("as the other's, " + b, pair(0, b, true), x -> x.fits(0, 1), b);
            due.keeps("unlike the other's, " + b, pair(b, b, false), x -> x.fits(0, 1), b == 0 ? 1 : 0);
            due.keeps("of the other point, " + b, pair(b, 0, true), x -> x.fits(1, 1), b);
        }
    }

    private static void fitsNo() {
        due.promise("22 'the least; -5'; Terms FITS: '(-5: none)'");
        Consumer<ShapeMoves> both = pair(2, 2, true).andThen(x -> x.see(1, false));
        due.keeps("seen both ways: how many", both, x -> x.fits(0, 0), 0);
        due.keeps("seen both ways: the least", both, x -> x.fits(0, 1), -5);
        Consumer<ShapeMoves> other = pair(2, 2, true).andThen(x -> x.see(24, true));
        due.keeps("a move that takes them to none: how many", other, x -> x.fits(1, 0), 0);
        due.keeps("a move that takes them to none: the least", other, x -> x.fits(1, 1), -5);
        due.keeps("0 is always in it", x -> {
            x.point(0, 0, 0, 0);
            x.see(0, false);
        }, x -> x.fits(0, 1), -5);
    }

    private static void fitsAllOfSeen() {
        due.promise("22, Terms FITS: 'by which, were that its own, all of SEEN were so'");
        Consumer<ShapeMoves> four = x -> {
            SetUps.corners(x);
            x.see(0, true);
            x.see(8, true);
            x.see(16, true);
            x.see(24, true);
        };
        due.keeps("four rows: moves that leave it there", four, x -> x.fits(0, 0), 5);
        due.keeps("a fifth, that takes it elsewhere", four.andThen(x -> x.see(1, true)), x -> x.fits(0, 0), 1);
        due.keeps("a fifth, that isn't in it", four.andThen(x -> x.see(1, false)), x -> x.fits(0, 1), 1);
        due.keeps("of another point", four, x -> x.fits(7, 0), 5);
        due.keeps("of one that they take elsewhere", four, x -> x.fits(1, 0), 1);
        due.keeps("what it has doesn't matter", four.andThen(x -> x.see(1, true)).andThen(x -> x.mark(0, 3)),
                x -> x.fits(0, 1), 0);
        due.keeps("what another has does", four.andThen(x -> x.see(1, true)).andThen(x -> x.mark(4, 3)),
                x -> x.fits(0, 0), 0);
    }

    // ---- 23

    private static void oddsNo() {
        due.promise("23 'NO: point, n (0 .. 48), part'");
        due.keeps("the least of all", SetUps::rich, x -> x.odds(0, 0, 0), 1);
        due.keeps("the most of all", SetUps::crowded, x -> x.odds(7, 48, 1), 5);
        due.keeps("point 3 of three", SetUps::rich, x -> x.odds(3, 0, 0), NO);
        due.keeps("none is there", SetUps::bare, x -> x.odds(0, 0, 0), NO);
        for (int i = 0; i < 2; i++) {
            int part = i;
            everywhere("point -1, part " + i, x -> x.odds(-1, 0, part), NO);
            everywhere("point 8, part " + i, x -> x.odds(8, 0, part), NO);
            everywhere("n -1, part " + i, x -> x.odds(0, -1, part), NO);
            everywhere("n 49, part " + i, x -> x.odds(0, 49, part), NO);
        }
        everywhere("part -1", x -> x.odds(0, 0, -1), NO);
        everywhere("part 2", x -> x.odds(0, 0, 2), NO);
        everywhere("all", x -> x.odds(8, 49, 2), NO);
        for (int far : FAR) {
            everywhere("point " + far, x -> x.odds(far, 0, 0), NO);
            everywhere("n " + far, x -> x.odds(0, far, 0), NO);
            everywhere("part " + far, x -> x.odds(0, 0, far), NO);
        }
    }

    private static void odds(Consumer<ShapeMoves> setUp, int point, int n, int above, int below) {
        due.keeps("odds(" + point + ", " + n + ", 0)", setUp, x -> x.odds(point, n, 0), above);
        due.keeps("odds(" + point + ", " + n + ", 1)", setUp, x -> x.odds(point, n, 1), below);
    }

    private static void oddsWhateverItHas() {
        due.promise("23, Terms ODDS: 'were its MARK 0 .. 4, each alike likely': whatever it has");
        for (int i = 0; i < 5; i++) {
            int v = i;
            odds(x -> Due.read(x, "p0,0,1," + v + ";p0,0,-1,0"), 0, 16, 1, 5);
            odds(x -> Due.read(x, "p0,0,1,0;p0,0,-1," + v), 0, 16, 1, 5);
        }
    }

    private static void oddsSoManyOrMore() {
        due.promise("23, Terms ODDS: 'how likely n MOVES or more are in THE GROUP'");
        // alike 16 moves keep the rod, unlike 8
        odds(SetUps::rod, 0, 8, 1, 1);
        odds(SetUps::rod, 0, 9, 1, 5);
        odds(SetUps::rod, 1, 16, 1, 5);
        odds(SetUps::rod, 1, 17, 0, 1);
        // alike 48 moves keep the corners, 6 if one is unlike
        odds(SetUps::corners, 3, 6, 1, 1);
        odds(SetUps::corners, 3, 7, 1, 5);
        odds(SetUps::corners, 3, 48, 1, 5);
        odds(x -> {
            SetUps.corners(x);
            x.mark(0, 1);
        }, 3, 48, 0, 1);
        odds(x -> {
            SetUps.corners(x);
            x.mark(0, 1);
        }, 0, 48, 1, 5);
        odds(SetUps::oneSided, 0, 1, 1, 1);
        odds(SetUps::oneSided, 0, 0, 1, 1);
    }

    private static void oddsLowestTerms() {
        due.promise("23, Terms ODDS: 'a fraction in lowest terms'");
        odds(x -> x.point(0, 0, 0, 3), 0, 48, 1, 1);
        odds(x -> x.point(0, 0, 0, 3), 0, 0, 1, 1);
        odds(x -> x.point(1, 2, 3, 0), 0, 2, 0, 1);
        odds(x -> x.point(1, 2, 3, 0), 0, 48, 0, 1);
        odds(SetUps::mixed, 0, 9, 1, 5);
        // on each axis a pair: by that of its own axis alone a move takes it to another
        odds(x -> Due.read(x, "p1,0,0,0;p-1,0,0,1;p0,1,0,2;p0,-1,0,3;p0,0,1,4;p0,0,-1,0"), 0, 2, 1, 5);
        // any two corners of a tetrahedron can change places: 24, 6, 4 or 2 moves keep its marks
        odds(x -> Due.read(x, "p1,1,1,4;p1,-1,-1,0;p-1,1,-1,1;p-1,-1,1,2"), 0, 2, 3, 5);
        odds(x -> Due.read(x, "p1,1,1,4;p1,-1,-1,0;p-1,1,-1,0;p-1,-1,1,2"), 0, 4, 2, 5);
        odds(x -> Due.read(x, "p1,1,1,4;p1,-1,-1,0;p-1,1,-1,0;p-1,-1,1,2"), 0, 6, 1, 5);
        odds(x -> Due.read(x, "p1,1,1,4;p1,-1,-1,0;p-1,1,-1,0;p-1,-1,1,2"), 0, 2, 1, 1);
        odds(x -> Due.read(x, "p1,1,1,4;p1,-1,-1,0;p-1,1,-1,1;p-1,-1,1,3"), 2, 2, 3, 5);
    }

    // ---- 24

    private static void meanNo() {
        due.promise("24 'NO'");
        due.keeps("part 0", SetUps::rich, x -> x.mean(0), 7);
        due.keeps("part 1", SetUps::rich, x -> x.mean(1), 4);
        everywhere("part -1", x -> x.mean(-1), NO);
        everywhere("part 2", x -> x.mean(2), NO);
        for (int far : FAR) {
            everywhere("part " + far, x -> x.mean(far), NO);
        }
    }

    private static void mean(Consumer<ShapeMoves> setUp, int above, int below) {
        due.keeps("mean(0)", setUp, x -> x.mean(0), above);
        due.keeps("mean(1)", setUp, x -> x.mean(1), below);
    }

    private static void meanLowestTerms() {
        due.promise("24, Terms MEAN: 'ORDERS of THE GROUP, together, by how many are in it: a fraction in lowest terms'");
        mean(SetUps::oneSided, 1, 1);
        mean(SetUps::mirror, 3, 2);
        mean(SetUps::bare, 53, 16);
        mean(SetUps::crowded, 53, 16);
        mean(SetUps::rod, 39, 16);
        mean(SetUps::cross, 15, 8);
        mean(x -> Due.read(x, "p1,1,1,0;p-1,-1,-1,0"), 11, 4);
        mean(x -> Due.read(x, "p1,2,3,0;p-1,-2,-3,0;p2,3,1,0;p-2,-3,-1,0;p3,1,2,0;p-3,-1,-2,0"), 7, 2);
        mean(x -> Due.read(x, "p1,1,1,0;p1,-1,-1,0;p-1,1,-1,0;p-1,-1,1,0"), 67, 24);
    }

    // ---- 25

    private static final int[] MOST_OF = {7, 4, 47, 4};

    private static void eventHowMany() {
        due.promise("25 'A row comes to EVENTS: how many there are'; '8 rows at most'");
        ShapeMoves x = new ShapeMoves();
        for (int i = 0; i < 8; i++) {
            due.is("row " + i, x.event(i % 4, i < 4 ? 0 : MOST_OF[i % 4]), i + 1);
            due.is("so many", x.count(1), i + 1);
        }
        due.is("the ninth doesn't come", x.event(0, 0), -4);
        due.is("eight stay", x.count(1), 8);
    }

    private static void eventNoneThen() {
        due.promise("25 '(what -1: none then, 0, whatever the rest is)'");
        int[] rests = {0, -1, 7, 8, 48, LEAST, MOST};
        for (int rest : rests) {
            due.keeps("of none, " + rest, SetUps::bare, x -> x.event(-1, rest), 0);
            ShapeMoves x = new ShapeMoves();
            SetUps.crowded(x);
            due.is("behind all of it: an edge of the cube is gone", x.after(0), 4);
            due.is("none then", x.event(-1, rest), 0);
            due.is("none", x.count(1), 0);
            due.is("SEEN stays", x.count(0), 5);
            due.is("the BOOK stays", x.count(2), 8);
            due.is("nothing happens", x.after(0), 48);
            due.is("it begins again", x.event(0, 7), 1);
            due.is("that alone happens", x.after(0), 6);
        }
    }

    private static void eventNone() {
        due.promise("25 'NONE: what (0 .. 3)'");
        everywhere("-2", x -> x.event(-2, 0), -1);
        everywhere("4", x -> x.event(4, 0), -1);
        for (int far : FAR) {
            everywhere("what " + far, x -> x.event(far, 0), -1);
        }
    }

    private static void eventBad() {
        due.promise("25 'BAD: n (0 .. 7; 0 .. 4; 0 .. 47; 0 .. 4)'");
        for (int i = 0; i < 4; i++) {
            int what = i;
            int most = MOST_OF[what];
            ShapeMoves x = new ShapeMoves();
            due.is("the least of " + what, x.event(what, 0), 1);
            due.is("the most of " + what, x.event(what, most), 2);
            everywhere("n -1 of " + what, y -> y.event(what, -1), -2);
            everywhere("n above of " + what, y -> y.event(what, most + 1), -2);
            for (int far : FAR) {
                everywhere("n " + far + " of " + what, y -> y.event(what, far), -2);
            }
        }
        everywhere("a move isn't a point", x -> x.event(0, 47), -2);
        everywhere("a point isn't a mark", x -> x.event(1, 7), -2);
        everywhere("a move isn't a mark", x -> x.event(3, 47), -2);
    }

    private static void eventFull() {
        due.promise("25 'FULL: 8'");
        for (int i = 0; i < 4; i++) {
            int what = i;
            due.keeps("a ninth of " + what, SetUps::crowded, x -> x.event(what, 0), -4);
            due.keeps("a ninth of " + what + ", the most", SetUps::crowded, x -> x.event(what, MOST_OF[what]), -4);
        }
    }

    private static void eventInOrder() {
        due.promise("25 NONE, BAD, FULL: 'the first that a call's words name'");
        due.keeps("NONE ahead of BAD", SetUps::rich, x -> x.event(4, 99), -1);
        due.keeps("NONE ahead of BAD, below", SetUps::rich, x -> x.event(-2, -1), -1);
        due.keeps("NONE ahead of FULL", SetUps::crowded, x -> x.event(4, 0), -1);
        due.keeps("BAD ahead of FULL", SetUps::crowded, x -> x.event(0, 8), -2);
        due.keeps("BAD ahead of FULL, below", SetUps::crowded, x -> x.event(3, -1), -2);
        due.keeps("NONE ahead of both", SetUps::crowded, x -> x.event(-2, 99), -1);
    }

    // ---- 26

    private static void afterNone() {
        due.promise("26 'NONE'");
        everywhere("-1", x -> x.after(-1), -1);
        everywhere("3", x -> x.after(3), -1);
        for (int far : FAR) {
            everywhere("what " + far, x -> x.after(far), -1);
        }
    }

    private static void after(String name, Consumer<ShapeMoves> setUp, int group, int classes, int orbits) {
        due.keeps(name + ": after(0)", setUp, x -> x.after(0), group);
        due.keeps(name + ": after(1)", setUp, x -> x.after(1), classes);
        due.keeps(name + ": after(2)", setUp, x -> x.after(2), orbits);
    }

    private static Consumer<ShapeMoves> with(Consumer<ShapeMoves> setUp, int... rows) {
        return setUp.andThen(x -> {
            for (int i = 0; i < rows.length; i += 2) {
                x.event(rows[i], rows[i + 1]);
            }
        });
    }

    private static void afterNoEvents() {
        due.promise("26, Terms AFTER: without EVENTS all is as it is");
        after("nothing", SetUps::bare, 48, 10, 0);
        after("corners", SetUps::corners, 48, 10, 1);
        after("eight unlike", SetUps::oneSided, 1, 1, 8);
        after("two unlike", SetUps::mixed, 8, 5, 2);
    }

    private static void afterGoing() {
        due.promise("26, Terms EVENTS: '0 POINT n goes (if there is one by that number then)'");
        after("the last of eight", with(SetUps::corners, 0, 7), 6, 3, 3);
        after("the first of eight", with(SetUps::corners, 0, 0), 6, 3, 3);
        after("there is no 7 then", with(SetUps::corners, 0, 7, 0, 7), 6, 3, 3);
        after("there is no 2 of two", with(SetUps::rod, 0, 2), 16, 10, 1);
        after("1 of two", with(SetUps::rod, 0, 1), 8, 5, 1);
        after("there is no 1 then", with(SetUps::rod, 0, 1, 0, 1), 8, 5, 1);
        after("the other is 0 then", with(SetUps::rod, 0, 0, 0, 0), 48, 10, 0);
        after("of none", with(SetUps::bare, 0, 0), 48, 10, 0);
        after("those behind have numbers 1 less",
                with(x -> Due.read(x, "p1,2,3,0;p0,0,1,0;p0,0,-1,0;p1,2,2,0"), 0, 0, 0, 2), 16, 10, 1);
        after("all eight", with(SetUps::corners, 0, 0, 0, 0, 0, 0, 0, 0, 0, 0, 0, 0, 0, 0, 0, 0), 48, 10, 0);
    }

    private static void afterMarks() {
        due.promise("26, Terms EVENTS: '1 all POINTS with MARK n have MARK 0'");
        Consumer<ShapeMoves> marks = x -> Due.read(x, "p0,0,1,0;p0,0,-1,4");
        after("4 becomes 0", with(marks, 1, 4), 16, 10, 1);
        after("3 is none's", with(marks, 1, 3), 8, 5, 2);
        after("0 stays", with(marks, 1, 0), 8, 5, 2);
        after("all that have it", with(x -> Due.read(x, "p0,0,1,3;p0,0,-1,3;p0,0,0,0"), 1, 3), 16, 10, 2);
        after("the last of eight", with(x -> {
            SetUps.corners(x);
            x.mark(7, 1);
        }, 1, 1), 48, 10, 1);
        after("none is there", with(SetUps::bare, 1, 0), 48, 10, 0);
    }

    private static void afterTaken() {
        due.promise("26, Terms EVENTS: '2 all POINTS are taken by MOVE n'");
        after("0 leaves all", with(SetUps::rich, 2, 0, 0, 0), 8, 5, 1);
        // taken by 24 the pinwheel's axis is X: its classes and orbits stay
        after("pinwheel by 24", with(SetUps::pinwheel, 2, 24), 4, 4, 2);
        after("pinwheel by 47", with(SetUps::pinwheel, 2, 47), 4, 4, 2);
        after("the eighth is taken too", with(SetUps::corners, 2, 47), 48, 10, 1);
        after("their numbers stay", with(x -> Due.read(x, "p1,2,3,0;p0,0,1,0;p0,0,-1,0"), 2, 26, 0, 0), 16, 10, 1);
        after("none is there", with(SetUps::bare, 2, 47), 48, 10, 0);
    }

    private static void afterAllHave() {
        due.promise("26, Terms EVENTS: '3 all have MARK n'");
        after("two unlike: 0", with(SetUps::mixed, 3, 0), 16, 10, 1);
        after("two unlike: 4", with(SetUps::mixed, 3, 4), 16, 10, 1);
        after("the eighth too", with(x -> {
            SetUps.corners(x);
            x.mark(7, 1);
        }, 3, 2), 48, 10, 1);
        after("none is there", with(SetUps::bare, 3, 4), 48, 10, 0);
    }

    private static void afterAllOfIt() {
        due.promise("26, Terms AFTER: 'behind all of it'");
        after("the eighth row happens too", with(SetUps::mixed, 1, 2, 1, 2, 1, 2, 1, 2, 1, 2, 1, 2, 1, 2, 3, 1), 16, 10, 1);
        after("one behind the other: all alike, then none", with(SetUps::mixed, 3, 2, 1, 2), 16, 10, 1);
        after("one behind the other: 1 goes, then 0", with(SetUps::mixed, 0, 1, 0, 0), 48, 10, 0);
        after("one behind the other: 0 goes, then there is no 1", with(SetUps::mixed, 0, 0, 0, 1), 8, 5, 1);
        after("a refused row doesn't happen", with(SetUps::mixed, 0, 8, 3, 5, 4, 0), 8, 5, 2);
    }

    // ---- 27

    private static void bookHowMany() {
        due.promise("27 'A row comes to the BOOK: how many there are'; '8 rows at most'");
        ShapeMoves x = new ShapeMoves();
        int[] moves = {0, 47, 1, 2, 3, 4, 5, 5};
        for (int i = 0; i < 8; i++) {
            due.is("row " + i, x.book(moves[i], 1 + i % 6), i + 1);
            due.is("so many", x.count(2), i + 1);
        }
        due.is("the ninth doesn't come", x.book(0, 1), -4);
        due.is("eight stay", x.count(2), 8);
    }

    private static void bookEmptyThen() {
        due.promise("27 '(move -1: it is empty then, 0, whatever the rest is)'");
        int[] rests = {0, 1, 6, 7, -1, LEAST, MOST};
        for (int rest : rests) {
            due.keeps("of none, " + rest, SetUps::bare, x -> x.book(-1, rest), 0);
            ShapeMoves x = new ShapeMoves();
            SetUps.crowded(x);
            x.mark(0, 1);
            due.is("8 and 16 keep that corner", x.looked(), -5);
            x.mark(1, 1);
            due.is("8 doesn't keep this one", x.looked(), 1);
            due.is("empty then", x.book(-1, rest), 0);
            due.is("none", x.count(2), 0);
            due.is("SEEN stays", x.count(0), 5);
            due.is("EVENTS stay", x.count(1), 8);
            due.is("none is otherwise", x.looked(), -5);
            due.is("it begins again", x.book(7, 2), 1);
            due.is("that row alone", x.looked(), 0);
        }
    }

    private static void bookNone() {
        due.promise("27 'NONE: move'");
        everywhere("-2", x -> x.book(-2, 1), -1);
        everywhere("48", x -> x.book(48, 1), -1);
        for (int far : FAR) {
            everywhere("move " + far, x -> x.book(far, 1), -1);
        }
    }

    private static void bookBad() {
        due.promise("27 'BAD: order'; Terms 'ORDERS (1 .. 6, 5 too'");
        for (int order = 1; order <= 6; order++) {
            due.is("order " + order, new ShapeMoves().book(0, order), 1);
            due.is("order " + order + " of the last", new ShapeMoves().book(47, order), 1);
        }
        everywhere("0", x -> x.book(0, 0), -2);
        everywhere("7", x -> x.book(0, 7), -2);
        everywhere("-1", x -> x.book(47, -1), -2);
        for (int far : FAR) {
            everywhere("order " + far, x -> x.book(0, far), -2);
        }
    }

    private static void bookFull() {
        due.promise("27 'FULL: 8'");
        due.keeps("a ninth", SetUps::crowded, x -> x.book(0, 1), -4);
        due.keeps("a ninth, that isn't so", SetUps::crowded, x -> x.book(47, 6), -4);
        ShapeMoves x = new ShapeMoves();
        SetUps.crowded(x);
        due.is("the ninth isn't there", x.book(0, 6), -4);
        due.is("it would be otherwise", x.looked(), -5);
    }

    private static void bookInOrder() {
        due.promise("27 NONE, BAD, FULL: 'the first that a call's words name'");
        due.keeps("NONE ahead of BAD", SetUps::rich, x -> x.book(48, 0), -1);
        due.keeps("NONE ahead of BAD, both", SetUps::rich, x -> x.book(-2, 7), -1);
        due.keeps("NONE ahead of FULL", SetUps::crowded, x -> x.book(48, 1), -1);
        due.keeps("BAD ahead of FULL", SetUps::crowded, x -> x.book(0, 7), -2);
        due.keeps("BAD ahead of FULL, below", SetUps::crowded, x -> x.book(0, 0), -2);
        due.keeps("NONE ahead of both", SetUps::crowded, x -> x.book(-2, 0), -1);
    }

    // ---- 28

    private static Consumer<ShapeMoves> booked(Consumer<ShapeMoves> setUp, int... rows) {
        return setUp.andThen(x -> {
            for (int i = 0; i < rows.length; i += 2) {
                x.book(rows[i], rows[i + 1]);
            }
        });
    }

    private static void looked(String name, int want, Consumer<ShapeMoves> setUp, int... rows) {
        due.keeps(name, booked(setUp, rows), x -> x.looked(), want);
    }

    private static void lookedNone() {
        due.promise("28 '-5'; Terms LOOKED: '(-5: none)'");
        looked("nothing told", -5, SetUps::bare);
        looked("nothing told of eight", -5, SetUps::oneSided);
        looked("one that is so", -5, SetUps::oneSided, 0, 1);
        looked("eight that are so", -5, SetUps::crowded);
        looked("one of each order", -5, SetUps::bare, 0, 1, 1, 2, 24, 3, 10, 4, 31, 6);
    }

    private static void lookedFirst() {
        due.promise("28, Terms LOOKED: 'the number (from 0) of the first of these rows'");
        looked("the first", 0, SetUps::bare, 0, 2, 0, 1, 0, 3);
        looked("the second", 1, SetUps::bare, 0, 1, 0, 2, 0, 3);
        looked("the eighth", 7, SetUps::bare, 0, 1, 0, 1, 0, 1, 0, 1, 0, 1, 0, 1, 0, 1, 0, 6);
        looked("a ninth isn't there", -5, SetUps::bare, 0, 1, 0, 1, 0, 1, 0, 1, 0, 1, 0, 1, 0, 1, 0, 1, 0, 6);
        looked("of both kinds the first", 0, SetUps::mirror, 2, 2, 1, 3);
        looked("of both kinds the first, the other", 0, SetUps::mirror, 1, 3, 2, 2);
    }

    private static void lookedNotInIt() {
        due.promise("28, Terms LOOKED: 'that isn't in THE GROUP'");
        looked("2 isn't, though its order is so", 0, SetUps::mirror, 2, 2);
        looked("47 isn't", 1, SetUps::mirror, 1, 2, 47, 2);
        looked("47 is", -5, SetUps::corners, 47, 2);
        looked("1 isn't any more", 0, booked(SetUps::mirror, 1, 2).andThen(x -> x.mark(0, 1)));
    }

    private static void lookedOrder() {
        due.promise("28, Terms LOOKED: 'or has another ORDER'");
        int[] moves = {0, 1, 24, 10, 31};
        int[] orders = {1, 2, 3, 4, 6};
        for (int i = 0; i < moves.length; i++) {
            for (int order = 1; order <= 6; order++) {
                looked("move " + moves[i] + ", order " + order, order == orders[i] ? -5 : 0,
                        SetUps::bare, moves[i], order);
            }
        }
    }
}
