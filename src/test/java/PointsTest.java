/** Promises 1 to 8: points, and set-ups read from texts. */
public final class PointsTest {
    private static final Due due = new Due("PointsTest");

    public static void main(String[] args) {
        newObject();
        point();
        mark();
        drop();
        of();
        at();
        feed();
        readWhole();
        readFaults();
        readRefused();
        due.end();
    }

    private static void newObject() {
        due.promise("1 a new object");
        ShapeMoves x = new ShapeMoves();
        due.is("told(0)", x.told(0), 0);
        due.is("told(1)", x.told(1), 48);
        due.is("told(3)", x.told(3), 0);
        due.is("of(0, 0)", x.of(0, 0), -9);
        for (int what = 0; what < 4; what++) {
            due.is("count(" + what + ")", x.count(what), 0);
        }
        due.is("undo()", x.undo(), -3);
        due.is("looked()", x.looked(), -5);
        for (int tape = 0; tape < 6; tape++) {
            due.is("peek(" + tape + ", 0)", x.peek(tape, 0), Long.MIN_VALUE);
            due.is("item(" + tape + ", 0, 1)", x.item(tape, 0, 1), -11);
        }
        for (int place = -3; place <= 3; place++) {
            due.is("at", x.at(place, 0, -place), -5);
        }
        due.is("the constants", ShapeMoves.NONE == -1 && ShapeMoves.BAD == -2
                && ShapeMoves.STATE == -3 && ShapeMoves.FULL == -4
                && ShapeMoves.NO == Long.MIN_VALUE ? 1 : 0, 1);
        new ShapeMoves().point(1, 1, 1, 1);
        due.is("objects share nothing", x.told(0), 0);
    }

    private static void point() {
        due.promise("2 point");
        ShapeMoves x = new ShapeMoves();
        int[] far = {-4, 4, 100, Integer.MIN_VALUE, Integer.MAX_VALUE};
        for (int v : far) {
            due.is("x " + v, x.point(v, 0, 0, 0), -2);
            due.is("y " + v, x.point(0, v, 0, 0), -2);
            due.is("z " + v, x.point(0, 0, v, 0), -2);
        }
        due.is("mark -1", x.point(0, 0, 0, -1), -2);
        due.is("mark 5", x.point(0, 0, 0, 5), -2);
        due.is("refused, nothing came", x.told(0), 0);
        due.is("first", x.point(3, -3, 3, 4), 0);
        due.is("second", x.point(-3, 3, -3, 0), 1);
        due.is("there already, another mark", x.point(3, -3, 3, 0), -3);
        due.is("there already, same mark", x.point(-3, 3, -3, 0), -3);
        due.is("bad mark ahead of there already", x.point(3, -3, 3, 5), -2);
        due.is("its mark stayed", x.of(0, 3), 4);
        for (int i = 2; i < 8; i++) {
            due.is("number " + i, x.point(i - 4, 0, 1, i % 5), i);
        }
        due.is("ninth", x.point(0, 0, 0, 0), -4);
        due.is("there already ahead of full", x.point(-2, 0, 1, 0), -3);
        due.is("bad ahead of full", x.point(0, 0, 4, 0), -2);
        due.is("eight stay", x.told(0), 8);
        due.is("full changed nothing", x.at(0, 0, 0), -5);
        for (int i = 2; i < 8; i++) {
            due.is("x of " + i, x.of(i, 0), i - 4);
            due.is("mark of " + i, x.of(i, 3), i % 5);
        }
        due.is("one goes", x.drop(7), 7);
        due.is("then another comes", x.point(0, 0, 0, 0), 7);
    }

    private static void mark() {
        due.promise("3 mark");
        ShapeMoves x = new ShapeMoves();
        due.is("no points", x.mark(0, 0), -1);
        x.point(1, 0, 0, 2);
        x.point(-1, 0, 0, 3);
        due.is("below", x.mark(-1, 0), -1);
        due.is("above", x.mark(2, 0), -1);
        due.is("no point ahead of bad", x.mark(2, 5), -1);
        due.is("bad 5", x.mark(0, 5), -2);
        due.is("bad -1", x.mark(0, -1), -2);
        due.is("stayed", x.of(0, 3), 2);
        due.is("unlike", x.told(1), 8);
        due.is("was 2", x.mark(0, 3), 2);
        due.is("is 3", x.of(0, 3), 3);
        due.is("alike: the group is another", x.told(1), 16);
        due.is("was 3", x.mark(0, 0), 3);
        due.is("was 0", x.mark(0, 4), 0);
        due.is("the same again", x.mark(0, 4), 4);
        due.is("the other's stayed", x.mark(1, 3), 3);
        due.is("unlike again", x.told(1), 8);
    }

    private static void drop() {
        due.promise("4 drop");
        ShapeMoves x = new ShapeMoves();
        due.is("no points", x.drop(0), -1);
        x.point(1, 0, 0, 1);
        x.point(0, 2, 0, 2);
        x.point(0, 0, 3, 3);
        x.see(0, true);
        x.event(0, 0);
        x.book(0, 1);
        due.is("below", x.drop(-1), -1);
        due.is("above", x.drop(3), -1);
        due.is("three are kept by few", x.told(1), 1);
        due.is("the middle one goes", x.drop(1), 2);
        due.is("the group is another", x.told(1), 2);
        due.is("the one behind has a number less", x.of(1, 2), 3);
        due.is("its x", x.of(1, 0), 0);
        due.is("its y", x.of(1, 1), 0);
        due.is("its mark", x.of(1, 3), 3);
        due.is("the one ahead stays", x.of(0, 0), 1);
        due.is("its mark stays", x.of(0, 3), 1);
        due.is("none has the last number", x.of(2, 0), -9);
        due.is("the place is free", x.at(0, 2, 0), -5);
        due.is("the place of the one behind", x.at(0, 0, 3), 1);
        due.is("seen stays", x.count(0), 1);
        due.is("events stay", x.count(1), 1);
        due.is("the book stays", x.count(2), 1);
        due.is("the first goes", x.drop(0), 1);
        due.is("the last goes", x.drop(0), 0);
        due.is("none is left", x.drop(0), -1);
        due.is("all moves keep none", x.told(1), 48);
        ShapeMoves y = Due.shape("p0,0,0,0;p1,0,0,1;p2,0,0,2;p3,0,0,3;p0,1,0,4;p0,2,0,0;p0,3,0,1;p0,0,1,2");
        due.is("of eight", y.drop(2), 7);
        due.is("x of 2", y.of(2, 0), 3);
        due.is("mark of 3", y.of(3, 3), 4);
        due.is("y of 5", y.of(5, 1), 3);
        due.is("z of 6", y.of(6, 2), 1);
        due.is("mark of 6", y.of(6, 3), 2);
    }

    private static void of() {
        due.promise("5 of");
        ShapeMoves x = Due.shape("p1,-2,3,4;p-1,0,0,1;p1,0,0,1;p0,1,0,2");
        due.is("x", x.of(0, 0), 1);
        due.is("y", x.of(0, 1), -2);
        due.is("z", x.of(0, 2), 3);
        due.is("mark", x.of(0, 3), 4);
        due.is("point -1", x.of(-1, 0), -9);
        due.is("point 4", x.of(4, 0), -9);
        due.is("what -1", x.of(0, -1), -9);
        due.is("what 5", x.of(0, 5), -9);
        due.is("the first keeps all where they are", x.of(2, 4), 2);
        x.drop(0);
        due.is("orbit 0", x.of(0, 4), 0);
        due.is("orbit of 1", x.of(1, 4), 0);
        due.is("orbit of 2", x.of(2, 4), 2);
        x.mark(1, 0);
        due.is("unlike marks, unlike orbits", x.of(1, 4), 1);
        ShapeMoves y = Due.shape("p0,0,0,0;p0,0,1,0;p1,1,0,0;p0,0,-1,0;p-1,-1,0,0");
        int[] orbits = {0, 1, 2, 1, 2};
        for (int i = 0; i < 5; i++) {
            due.is("orbit of " + i, y.of(i, 4), orbits[i]);
        }
    }

    private static void at() {
        due.promise("6 at");
        ShapeMoves x = Due.shape("p1,2,3,0;p3,2,1,0;p-3,-3,-3,4");
        due.is("1 2 3", x.at(1, 2, 3), 0);
        due.is("3 2 1", x.at(3, 2, 1), 1);
        due.is("-3 -3 -3", x.at(-3, -3, -3), 2);
        due.is("none", x.at(2, 2, 2), -5);
        due.is("x alone is like", x.at(1, 0, 0), -5);
        due.is("z is unlike", x.at(1, 2, 2), -5);
        due.is("y is unlike", x.at(1, 1, 3), -5);
        for (int far = -4; far <= 4; far += 8) {
            due.is("x " + far, x.at(far, 2, 3), -2);
            due.is("y " + far, x.at(1, far, 3), -2);
            due.is("z " + far, x.at(1, 2, far), -2);
        }
    }

    private static void feed() {
        due.promise("7 feed");
        ShapeMoves x = new ShapeMoves();
        due.is("-1", x.feed(-1), -2);
        due.is("128", x.feed(128), -2);
        due.is("256 more than p", x.feed('p' + 256), -2);
        due.is("none came", x.count(3), 0);
        due.is("0", x.feed(0), 1);
        due.is("127", x.feed(127), 2);
        for (int i = 3; i <= 100; i++) {
            due.is("sign " + i, x.feed('d'), i);
        }
        due.is("101st", x.feed('d'), -4);
        due.is("bad ahead of full", x.feed(128), -2);
        due.is("100 stay", x.count(3), 100);
        due.is("0 begins nothing", x.read(), -10);
        due.is("empty then", x.feed('d'), 1);
        due.is("in their order", Due.read(x, "x"), -11);
    }

    private static void readWhole() {
        due.promise("8 read");
        ShapeMoves x = new ShapeMoves();
        due.is("one point", Due.read(x, "p1,-2,3,4"), 1);
        due.is("empty then", x.count(3), 0);
        due.is("x", x.of(0, 0), 1);
        due.is("y", x.of(0, 1), -2);
        due.is("z", x.of(0, 2), 3);
        due.is("mark", x.of(0, 3), 4);
        due.is("a mark", Due.read(x, "m01"), 1);
        due.is("it is 1", x.of(0, 3), 1);
        due.is("no sign before a nought", Due.read(x, "p-0,0,-0,0"), 1);
        due.is("at the middle", x.at(0, 0, 0), 1);
        due.is("it goes, another comes", Due.read(x, "d0;p-3,-3,-3,2;m03"), 3);
        due.is("the middle one is the first now", x.at(0, 0, 0), 0);
        due.is("and has its mark", x.of(0, 3), 3);
        due.is("the other", x.at(-3, -3, -3), 1);
        due.is("the other's mark", x.of(1, 3), 2);
        due.is("the group is that of the new shape", x.told(1), 6);
        due.is("twelve clauses", Due.read(x, "m01;m02;m01;m02;m01;m02;m01;m02;m01;m02;m01;m00"), 12);
        due.is("the last one's mark", x.of(0, 3), 0);
        for (int point = 0; point < 2; point++) {
            due.is("go", Due.read(x, "d0"), 1);
        }
        due.is("none", x.told(0), 0);
        // 99 bytes: 9 clauses of 10 and their semicolons
        String long9 = "p-1,-1,1,0;p-1,1,-1,0;p1,-1,-1,0;p-2,-2,2,0;p-2,2,-2,0;p2,-2,-2,0;p-3,-3,3,0;p-3,3,-3,0;p3,-3,-3,0";
        due.is("eight of nine points", Due.read(x, long9), 8);
        due.is("the last two", x.at(-3, 3, -3), 7);
        due.is("the ninth was refused", x.at(3, -3, -3), -5);
    }

    private static void readFaults() {
        due.promise("8 read, the FAULT");
        ShapeMoves x = Due.shape("p1,1,1,1");
        String[] texts = {
            "", ";", "x", "P1,1,1,1", " m01", "p", "p-", "p--", "p1", "p1,", "p1,1", "p1 ,", "p1,1,1", "p1,1,1,",
            "p1,1,1,-1", "p1,1,1,5", "p1,1,1,11", "p10,1,1,1", "m", "m-0", "m0", "m0,1", "m0a", "d", "dd", "d00",
            "d9;", "d9;x", "d9;;", "d9,", "m09;m", "m09 ", "p1,1-,1,1", "p1;1,1,1", "p,1,1,1", "p+1,1,1,1", "m:0",
            "m0/", "d9;d9;d9;d9;d9;d9;d9;d9;d9;d9;d9;d9;", "d9;d9;d9;d9;d9;d9;d9;d9;d9;d9;d9;d9;d9",
            "d9;d9;d9;d9;d9;d9;d9;d9;d9;d9;d9;d9x", "d9;d9;d9;d9;d9;d9;d9;d9;d9;d9;d9;d"};
        int[] faults = {
            0, 0, 0, 0, 0, 1, 2, 2, 2, 3, 4, 2, 6, 7,
            7, -1, 8, 2, 1, 1, 2, 2, 2, 1, 1, 2,
            3, 3, 3, 2, 5, 3, 4, 2, 1, 1, 1,
            2, 35, 35, 35, 34};
        for (int i = 0; i < texts.length; i++) {
            int want = faults[i] < 0 ? 0 : -10 - faults[i];
            if (i % 20 == 19) {
                x = Due.shape("p1,1,1,1");
            }
            due.is("'" + texts[i] + "'", Due.read(x, texts[i]), want);
            due.is("empty then", x.count(3), 0);
        }
        due.is("fault behind good clauses", Due.read(x, "d0;p0,0,0,0;m01;"), -26);
        due.is("nothing was done", x.told(0), 1);
        due.is("its mark stays", x.of(0, 3), 1);
        StringBuilder whole = new StringBuilder();
        while (whole.length() < 88) {
            whole.append("p-1,-1,-1,9;");
        }
        due.is("a hundred bytes that end too early", Due.read(x, whole.substring(0, 84) + "p-1,-1,-1,9;p-1,"), -110);
    }

    private static void readRefused() {
        due.promise("8 read, refused clauses");
        ShapeMoves x = new ShapeMoves();
        due.is("far x", Due.read(x, "p4,0,0,0"), 0);
        due.is("far y", Due.read(x, "p0,-4,0,0"), 0);
        due.is("far z", Due.read(x, "p0,0,9,0"), 0);
        due.is("mark above 4", Due.read(x, "p0,0,0,5"), 0);
        due.is("no such point's mark", Due.read(x, "m00"), 0);
        due.is("no such point goes", Due.read(x, "d0"), 0);
        due.is("none came", x.told(0), 0);
        due.is("there already", Due.read(x, "p0,0,0,0;p0,0,0,1;p0,0,1,1"), 2);
        due.is("the first's mark", x.of(0, 3), 0);
        due.is("mark above 4 for a point", Due.read(x, "m05;m13"), 1);
        due.is("the first's mark stays", x.of(0, 3), 0);
        due.is("the second's is another", x.of(1, 3), 3);
        due.is("only done ones count", Due.read(x, "d2;d9;d1;d1;d0;d0"), 2);
        due.is("none is left", x.told(0), 0);
        due.is("a refused one is as if it weren't there",
                Due.read(x, "m00;p0,0,0,0;m01;d1;p0,0,0,0;d0;p0,0,0,0"), 4);
        due.is("the last one's mark", x.of(0, 3), 0);
    }
}
