/** Promises 21 to 28: seen, odds, means, events, books. */
public final class SeenTest {
    private static final long NO = Long.MIN_VALUE;
    private static final String PAIR = "p1,0,0,0;p-1,0,0,2";
    private static final Due due = new Due("SeenTest");

    public static void main(String[] args) {
        see();
        fits();
        odds();
        mean();
        event();
        after();
        afterOfEight();
        afterIsAsked();
        book();
        looked();
        due.end();
    }

    private static void see() {
        due.promise("21 see");
        ShapeMoves x = new ShapeMoves();
        due.is("move -2", x.see(-2, true), -1);
        due.is("move 48", x.see(48, false), -1);
        due.is("none came", x.count(0), 0);
        due.is("0", x.see(0, true), 1);
        due.is("47", x.see(47, false), 2);
        due.is("the same again", x.see(47, false), 3);
        due.is("the other way", x.see(47, true), 4);
        due.is("fifth", x.see(1, true), 5);
        due.is("sixth", x.see(1, true), -4);
        due.is("no move ahead of full", x.see(48, true), -1);
        due.is("five stay", x.count(0), 5);
        due.is("none then", x.see(-1, true), 0);
        due.is("none", x.count(0), 0);
        due.is("from the first", x.see(3, true), 1);
        due.is("none then, whatever the rest", x.see(-1, false), 0);
        due.is("none of none", x.see(-1, false), 0);
    }

    private static void fits() {
        due.promise("22 fits");
        ShapeMoves x = Due.shape(PAIR);
        due.is("none seen: all", x.fits(0, 0), 5);
        due.is("none seen: the least", x.fits(0, 1), 0);
        x.see(1, true);
        due.is("alike", x.fits(0, 0), 1);
        due.is("alike, the least", x.fits(0, 1), 2);
        due.is("alike by the other's", x.fits(1, 1), 0);
        x.see(1, false);
        due.is("both ways: none", x.fits(0, 0), 0);
        due.is("both ways: no least", x.fits(0, 1), -5);
        x.see(-1, false);
        x.see(1, false);
        due.is("unlike", x.fits(0, 0), 4);
        due.is("unlike, the least", x.fits(0, 1), 0);
        due.is("unlike to 0", x.fits(1, 0), 4);
        due.is("unlike to 0, the least", x.fits(1, 1), 1);
        x.see(8, true);
        x.see(2, true);
        x.see(6, true);
        due.is("others that are so whatever the mark", x.fits(0, 0), 4);
        x.see(16, true);
        due.is("the fifth is so by none", x.fits(0, 0), 0);
        due.is("changes nothing", x.of(0, 3), 0);
        due.is("changes nothing of the group", x.told(1), 8);
        due.is("point -1", x.fits(-1, 0), -1);
        due.is("point 2", x.fits(2, 0), -1);
        due.is("what -1", x.fits(0, -1), -1);
        due.is("what 2", x.fits(0, 2), -1);
        due.is("no points", new ShapeMoves().fits(0, 0), -1);
    }

    private static void fraction(ShapeMoves x, int point, int n, int above, int below) {
        due.is("odds(" + point + ", " + n + ", 0)", x.odds(point, n, 0), above);
        due.is("odds(" + point + ", " + n + ", 1)", x.odds(point, n, 1), below);
    }

    private static void odds() {
        due.promise("23 odds");
        ShapeMoves x = Due.shape(PAIR);
        fraction(x, 0, 0, 1, 1);
        fraction(x, 0, 8, 1, 1);
        fraction(x, 0, 9, 1, 5);
        fraction(x, 1, 16, 1, 5);
        fraction(x, 1, 17, 0, 1);
        fraction(x, 1, 48, 0, 1);
        ShapeMoves y = Due.shape("p1,0,0,0;p-1,0,0,0;p0,1,0,0;p0,-1,0,1;p0,0,1,2;p0,0,-1,3");
        fraction(y, 0, 1, 1, 1);
        fraction(y, 0, 2, 2, 5);
        fraction(y, 0, 3, 0, 1);
        fraction(y, 3, 8, 1, 5);
        // any two corners of a tetrahedron can be swapped, and the others stay
        ShapeMoves z = Due.shape("p1,1,1,4;p1,-1,-1,0;p-1,1,-1,1;p-1,-1,1,2");
        fraction(z, 0, 2, 3, 5);
        fraction(z, 1, 2, 3, 5);
        fraction(z, 0, 3, 0, 1);
        due.is("changes nothing", z.of(0, 3), 4);
        ShapeMoves one = Due.shape("p0,0,0,4");
        fraction(one, 0, 48, 1, 1);
        due.is("point -1", x.odds(-1, 0, 0), NO);
        due.is("point 2", x.odds(2, 0, 0), NO);
        due.is("n -1", x.odds(0, -1, 0), NO);
        due.is("n 49", x.odds(0, 49, 0), NO);
        due.is("part -1", x.odds(0, 0, -1), NO);
        due.is("part 2", x.odds(0, 0, 2), NO);
        due.is("no points", new ShapeMoves().odds(0, 0, 0), NO);
    }

    private static void meanOf(String shape, int above, int below) {
        ShapeMoves x = Due.shape(shape);
        due.is("mean(0) of " + shape, x.mean(0), above);
        due.is("mean(1) of " + shape, x.mean(1), below);
    }

    private static void mean() {
        due.promise("24 mean");
        meanOf("p1,2,3,0", 1, 1);
        meanOf("p1,2,3,0;p-1,-2,3,0", 3, 2);
        meanOf("p1,2,3,0;p2,3,1,0;p3,1,2,0", 7, 3);
        meanOf("p0,0,1,0", 19, 8);
        meanOf("p1,2,0,0;p-2,1,0,0;p-1,-2,0,0;p2,-1,0,0;p0,0,1,0", 11, 4);
        meanOf("p1,0,0,0;p0,1,0,0;p0,0,1,0", 13, 6);
        meanOf("p0,0,0,0", 53, 16);
        due.is("part -1", new ShapeMoves().mean(-1), NO);
        due.is("part 2", new ShapeMoves().mean(2), NO);
    }

    private static void event() {
        due.promise("25 event");
        ShapeMoves x = new ShapeMoves();
        due.is("what -2", x.event(-2, 0), -1);
        due.is("what 4", x.event(4, 0), -1);
        due.is("no such what ahead of bad", x.event(4, 99), -1);
        int[] most = {7, 4, 47, 4};
        for (int what = 0; what < 4; what++) {
            due.is("n -1 of " + what, x.event(what, -1), -2);
            due.is("n above of " + what, x.event(what, most[what] + 1), -2);
        }
        due.is("none came", x.count(1), 0);
        for (int what = 0; what < 4; what++) {
            due.is("least n of " + what, x.event(what, 0), 2 * what + 1);
            due.is("most n of " + what, x.event(what, most[what]), 2 * what + 2);
        }
        due.is("ninth", x.event(0, 0), -4);
        due.is("bad ahead of full", x.event(0, 8), -2);
        due.is("no such what ahead of full", x.event(5, 0), -1);
        due.is("eight stay", x.count(1), 8);
        due.is("none then, whatever the rest", x.event(-1, 99), 0);
        due.is("none", x.count(1), 0);
        due.is("from the first", x.event(2, 47), 1);
    }

    private static void afterAll(String call, ShapeMoves x, int group, int classes, int orbits) {
        due.is(call + ": group", x.after(0), group);
        due.is(call + ": classes", x.after(1), classes);
        due.is(call + ": orbits", x.after(2), orbits);
    }

    private static void after() {
        due.promise("26 after");
        ShapeMoves x = Due.shape("p1,0,0,1;p-1,0,0,2;p0,1,0,3;p1,2,3,1");
        afterAll("no events", x, 1, 1, 4);
        x.event(0, 3);
        afterAll("the last goes", x, 2, 2, 3);
        x.event(0, 3);
        afterAll("none has that number now", x, 2, 2, 3);
        x.event(1, 1);
        afterAll("1 becomes 0", x, 2, 2, 3);
        x.event(1, 2);
        afterAll("2 becomes 0", x, 4, 4, 2);
        x.event(0, 0);
        afterAll("the first goes", x, 2, 2, 2);
        x.event(3, 4);
        afterAll("all alike", x, 4, 4, 1);
        x.event(2, 24);
        afterAll("all are taken", x, 4, 4, 1);
        x.event(0, 1);
        afterAll("the second goes", x, 8, 5, 1);
        due.is("what -1", x.after(-1), -1);
        due.is("what 3", x.after(3), -1);
        ShapeMoves y = Due.shape("p1,0,0,1;p-1,0,0,2");
        y.event(1, 2);
        afterAll("2 becomes 0, not 1", y, 8, 5, 2);
        y.event(1, 1);
        afterAll("both are 0", y, 16, 10, 1);
        y.event(0, 7);
        afterAll("there is no such point", y, 16, 10, 1);
        y.event(0, 0);
        y.event(0, 0);
        afterAll("none is left", y, 48, 10, 0);
        y.event(3, 1);
        y.event(2, 9);
        afterAll("none to mark or take", y, 48, 10, 0);
        ShapeMoves z = Due.shape("p1,0,0,1;p0,1,0,1;p0,0,1,2");
        z.event(0, 2);
        z.event(3, 0);
        afterAll("the shape alone counts", z, 4, 4, 1);
        ShapeMoves w = Due.shape("p1,0,0,0;p-1,0,0,3");
        w.event(1, 3);
        afterAll("as the one that had 0 ahead", w, 16, 10, 1);
    }

    private static void afterOfEight() {
        due.promise("26 after, eight points");
        ShapeMoves x = Due.shape("p1,1,1,0;p1,1,-1,0;p1,-1,1,0;p1,-1,-1,0;p-1,1,1,0;p-1,1,-1,0;p-1,-1,1,0");
        x.point(-1, -1, -1, 4);
        afterAll("a corner is marked", x, 6, 3, 4);
        x.event(2, 3);
        afterAll("another one is", x, 6, 3, 4);
        x.event(1, 4);
        afterAll("none is", x, 48, 10, 1);
        x.event(3, 2);
        afterAll("all are", x, 48, 10, 1);
        x.event(0, 7);
        afterAll("the last is none", x, 6, 3, 3);
    }

    private static void afterIsAsked() {
        due.promise("26 after, changes nothing");
        ShapeMoves x = Due.shape("p1,0,0,1;p-1,0,0,2");
        x.event(2, 24);
        x.event(3, 0);
        x.event(0, 0);
        due.is("one is left then", x.after(0), 8);
        due.is("points stay", x.told(0), 2);
        due.is("places stay", x.at(-1, 0, 0), 1);
        due.is("marks stay", x.of(0, 3), 1);
        due.is("the group stays", x.told(3), 2);
        due.is("events stay", x.count(1), 3);
        due.is("asked again", x.after(0), 8);
    }

    private static void book() {
        due.promise("27 book");
        ShapeMoves x = new ShapeMoves();
        due.is("move -2", x.book(-2, 1), -1);
        due.is("move 48", x.book(48, 1), -1);
        due.is("no move ahead of bad", x.book(48, 0), -1);
        due.is("order 0", x.book(0, 0), -2);
        due.is("order 7", x.book(0, 7), -2);
        due.is("none came", x.count(2), 0);
        due.is("order 1", x.book(0, 1), 1);
        due.is("order 6", x.book(47, 6), 2);
        due.is("order 5 too", x.book(1, 5), 3);
        for (int i = 4; i <= 8; i++) {
            due.is("row " + i, x.book(i, 2), i);
        }
        due.is("ninth", x.book(0, 1), -4);
        due.is("bad ahead of full", x.book(0, 7), -2);
        due.is("no move ahead of full", x.book(48, 1), -1);
        due.is("eight stay", x.count(2), 8);
        due.is("empty then, whatever the rest", x.book(-1, 99), 0);
        due.is("none", x.count(2), 0);
        due.is("from the first", x.book(0, 1), 1);
    }

    private static void looked() {
        due.promise("28 looked");
        ShapeMoves x = new ShapeMoves();
        due.is("none told", x.looked(), -5);
        x.book(0, 1);
        x.book(24, 3);
        x.book(31, 6);
        x.book(10, 4);
        due.is("all are so", x.looked(), -5);
        x.book(7, 1);
        x.book(7, 2);
        due.is("another order", x.looked(), 4);
        x.point(0, 0, 1, 0);
        due.is("not in the group", x.looked(), 1);
        x.book(-1, 0);
        x.book(17, 4);
        due.is("in the group", x.looked(), -5);
        x.book(4, 2);
        due.is("not in the group, as its order is", x.looked(), 1);
        x.book(-1, 0);
        x.book(1, 5);
        due.is("order 5 is none's", x.looked(), 0);
    }
}
