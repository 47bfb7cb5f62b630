/** Promises 29 to 36: judging, the image, counts, tapes. */
public final class TapesTest {
    private static final long NO = Long.MIN_VALUE;
    private static final int LEAST = Integer.MIN_VALUE;
    private static final int MOST = Integer.MAX_VALUE;
    private static final Due due = new Due("TapesTest");

    public static void main(String[] args) {
        judge();
        judgeWhole();
        image();
        undo();
        undoOfEight();
        undoLeaves();
        count();
        tape();
        item();
        peek();
        shift();
        shiftRefused();
        due.end();
    }

    private static void judge() {
        due.promise("29 judge");
        ShapeMoves x = Due.shape("p1,2,3,0;p-1,-2,3,0;p1,2,-3,0;p-1,-2,-3,0");
        due.is("the group", x.told(1), 4);
        due.is("tape -1", x.judge(-1, 0), -1);
        due.is("tape 6", x.judge(6, 0), -1);
        due.is("holds nothing", x.judge(5, 0), 100);
        due.is("holds nothing, no such place", x.judge(5, -1), 100);
        for (int sort = 1; sort < 5; sort++) {
            x.tape(0, sort, 10);
            due.is("sort " + sort, x.judge(0, 0), -12);
            due.is("sort " + sort + ", no such place", x.judge(0, -1), -12);
        }
        x.tape(0, 1, 0);
        due.is("no items of another sort", x.judge(0, 0), -12);
        x.tape(0, 0, 0);
        due.is("no items", x.judge(0, 0), 100);
        x.tape(0, 0, 6);
        due.is("one is as told", x.judge(0, 0), 1);
        due.is("place below", x.judge(0, -1), 100);
        due.is("far below", x.judge(0, LEAST), 100);
        due.is("at the end", x.judge(0, 6), 100);
        due.is("far behind the end", x.judge(0, MOST), 100);
        int[] group = {0, 3, 4, 7};
        for (int k = 0; k < 4; k++) {
            due.is("group " + k, x.group(k), group[k]);
            x.item(0, k + 2, group[k]);
        }
        due.is("from place 2 on", x.judge(0, 2), -5);
        due.is("from place 1 on", x.judge(0, 1), 1);
        due.is("from place 3 on", x.judge(0, 3), 0);
        x.item(0, 5, 6);
        due.is("the last is otherwise", x.judge(0, 2), 3);
        x.item(0, 5, 7);
        x.shift(0, 2, 0, 3, 3);
        due.is("the row ends after three", x.judge(0, 3), 103);
        x.item(0, 5, 5);
        due.is("otherwise ahead of the end", x.judge(0, 3), 2);
        x.item(0, 5, 4);
        x.tape(1, 0, 60);
        for (int k = 0; k < 4; k++) {
            x.item(1, 56 + k, group[k]);
        }
        due.is("to the very end", x.judge(1, 56), -5);
        x.mark(0, 1);
        due.is("the group is another", x.told(1), 1);
        due.is("no more are looked at than are in it", x.judge(1, 56), -5);
        due.is("the first only", x.judge(1, 59), 0);
    }

    private static void judgeWhole() {
        due.promise("29 judge, all 48");
        ShapeMoves x = new ShapeMoves();
        x.tape(2, 0, 50);
        for (int k = 0; k < 48; k++) {
            due.is("so far", x.judge(2, 1), k == 0 ? 1 : k);
            x.item(2, k + 1, k);
        }
        due.is("all", x.judge(2, 1), -5);
        due.is("all but what is behind", x.judge(2, 0), 1);
        x.item(2, 1, 256);
        due.is("the lowest bits", x.judge(2, 1), -5);
        x.tape(2, 0, 47);
        due.is("a new row", x.judge(2, 0), 1);
        for (int k = 0; k < 47; k++) {
            x.item(2, k, k);
        }
        due.is("ends after 47", x.judge(2, 0), 147);
    }

    private static void image() {
        due.promise("30 image");
        ShapeMoves x = new ShapeMoves();
        due.is("no points", x.image(), 0);
        x.point(1, 1, 1, 1);
        x.point(2, 2, 2, 2);
        due.is("two", x.image(), 2);
        x.drop(0);
        due.is("that of now", x.image(), 1);
        x.point(3, 3, 3, 3);
        due.is("the last one is it", x.undo(), 1);
        due.is("its point", x.of(0, 0), 2);
    }

    private static void undo() {
        due.promise("31 undo");
        ShapeMoves x = Due.shape("p1,2,3,0;p-1,-2,3,4");
        due.is("none", x.undo(), -3);
        due.is("points stay", x.told(0), 2);
        x.see(1, true);
        x.see(3, false);
        x.event(3, 2);
        x.event(2, 24);
        x.book(0, 1);
        x.book(3, 2);
        due.is("image", x.image(), 2);
        x.mark(1, 0);
        due.is("another group", x.told(1), 2);
        x.see(2, false);
        x.event(0, 0);
        x.book(4, 2);
        x.point(0, 0, 0, 0);
        due.is("undo", x.undo(), 2);
        due.is("the group is that again", x.told(1), 1);
        due.is("points", x.told(0), 2);
        due.is("mark", x.of(1, 3), 4);
        due.is("seen", x.count(0), 2);
        due.is("events", x.count(1), 2);
        due.is("the book", x.count(2), 2);
        undoRows(x);
    }

    /** The rows are those of the image, and the image stays for another undo. */
    private static void undoRows(ShapeMoves x) {
        due.is("fits by what was seen", x.fits(1, 0), 0);
        due.is("after both events", x.after(0), 2);
        due.is("looked at", x.looked(), 1);
        x.see(-1, true);
        x.see(3, true);
        x.event(-1, 0);
        x.book(-1, 0);
        x.book(47, 6);
        x.drop(0);
        x.drop(0);
        x.point(3, 3, 3, 3);
        due.is("once more", x.undo(), 2);
        due.is("seen", x.count(0), 2);
        due.is("its first row", x.fits(1, 0), 0);
        due.is("events", x.after(0), 2);
        due.is("the book", x.count(2), 2);
        due.is("its first row, as it was", x.looked(), 1);
        for (int i = 0; i < 2; i++) {
            int sign = 1 - 2 * i;
            due.is("x", x.of(i, 0), sign);
            due.is("y", x.of(i, 1), 2 * sign);
            due.is("z", x.of(i, 2), 3);
            due.is("mark", x.of(i, 3), 4 * i);
        }
        due.is("changes behind the image don't reach it", x.mark(0, 1), 0);
        due.is("and again", x.undo(), 2);
        due.is("its mark", x.of(0, 3), 0);
    }

    private static void undoOfEight() {
        due.promise("31 undo, eight points");
        ShapeMoves x = Due.shape("p1,1,1,0;p1,1,-1,1;p1,-1,1,2;p1,-1,-1,3;p-1,1,1,4;p-1,1,-1,0;p-1,-1,1,1");
        x.point(-1, -1, -1, 2);
        due.is("eight", x.image(), 8);
        for (int left = 7; left >= 0; left--) {
            x.drop(0);
        }
        x.point(0, 0, 0, 0);
        due.is("all 48 keep it", x.told(1), 48);
        due.is("eight again", x.undo(), 8);
        due.is("the group is found anew", x.told(1), 2);
        for (int i = 0; i < 8; i++) {
            due.is("x of " + i, x.of(i, 0), i < 4 ? 1 : -1);
            due.is("y of " + i, x.of(i, 1), i % 4 < 2 ? 1 : -1);
            due.is("z of " + i, x.of(i, 2), i % 2 == 0 ? 1 : -1);
            due.is("mark of " + i, x.of(i, 3), i % 5);
        }
    }

    private static void undoLeaves() {
        due.promise("31 undo, text and tapes");
        ShapeMoves x = new ShapeMoves();
        x.feed('d');
        x.tape(0, 3, 2);
        x.item(0, 0, 5);
        x.image();
        x.feed('0');
        x.item(0, 0, 6);
        x.tape(1, 0, 1);
        due.is("undo", x.undo(), 0);
        due.is("the text stays", x.count(3), 2);
        due.is("tapes stay", x.peek(0, 0), 6);
        due.is("new ones too", x.peek(1, 0), 0);
        due.is("d0 is refused, without points", x.read(), 0);
        x.point(1, 1, 1, 1);
        due.is("an image without points", x.undo(), 0);
        due.is("none", x.told(0), 0);
        due.is("all 48", x.told(1), 48);
    }

    private static void count() {
        due.promise("32 count");
        ShapeMoves x = new ShapeMoves();
        x.see(0, true);
        x.event(0, 0);
        x.event(0, 0);
        x.book(0, 1);
        x.book(0, 1);
        x.book(0, 1);
        for (int i = 0; i < 4; i++) {
            x.feed(i);
        }
        for (int what = 0; what < 4; what++) {
            due.is("count(" + what + ")", x.count(what), what + 1);
        }
        due.is("what -1", x.count(-1), -2);
        due.is("what 4", x.count(4), -2);
    }

    private static void tape() {
        due.promise("33 tape");
        ShapeMoves x = new ShapeMoves();
        due.is("tape -1", x.tape(-1, 0, 0), -1);
        due.is("tape 6", x.tape(6, 0, 0), -1);
        due.is("no tape ahead of bad", x.tape(6, 9, 99), -1);
        due.is("sort -2", x.tape(0, -2, 0), -2);
        due.is("sort 5", x.tape(0, 5, 0), -2);
        due.is("61", x.tape(0, 0, 61), -2);
        due.is("far above", x.tape(0, 0, MOST), -2);
        due.is("-1", x.tape(0, 0, -1), -14);
        due.is("far below", x.tape(0, 0, LEAST), -14);
        due.is("bad sort ahead of size", x.tape(0, 5, -1), -2);
        due.is("bad sort, as low, ahead of size", x.tape(0, -2, -1), -2);
        due.is("holds nothing still", x.item(0, 0, 0), -11);
        for (int sort = 0; sort < 5; sort++) {
            due.is("sort " + sort, x.tape(sort, sort, 60), 1);
            due.is("first item", x.item(sort, 0, 1), 1);
            due.is("last item", x.item(sort, 59, 1), 1);
            due.is("behind it", x.item(sort, 60, 1), -13);
            due.is("refused", x.tape(sort, sort, 61), -2);
            due.is("it stays", x.peek(sort, 59), 1);
            due.is("another row", x.tape(sort, 4 - sort, 60), 1);
            due.is("all 0", x.peek(sort, 59), 0);
            due.is("its first", x.peek(sort, 0), 0);
        }
        due.is("no items", x.tape(5, 2, 0), 1);
        due.is("no place", x.item(5, 0, 1), -13);
        due.is("nothing, n below", x.tape(5, -1, -7), 1);
        due.is("holds nothing", x.item(5, 0, 1), -11);
        due.is("nothing, n above", x.tape(4, -1, 61), 1);
        due.is("nothing there", x.peek(4, 0), NO);
        due.is("holds nothing now", x.item(4, 0, 1), -11);
        due.is("a row again", x.tape(4, 2, 3), 1);
        due.is("its last is 0", x.peek(4, 2), 0);
        due.is("the others stay", x.tape(3, 0, 60) + x.item(3, 3, 3) + x.tape(2, 0, 1) + x.peek(3, 3), 6);
    }

    private static void items(int sort, long v, long want) {
        ShapeMoves x = new ShapeMoves();
        x.tape(3, sort, 3);
        due.is("item of sort " + sort + ": " + v, x.item(3, 1, v), 1);
        due.is("then, sort " + sort + ": " + v, x.peek(3, 1), want);
        due.is("ahead of it", x.peek(3, 0), 0);
        due.is("behind it", x.peek(3, 2), 0);
    }

    private static void item() {
        due.promise("34 item");
        long[] values = {0, 1, -1, 127, 128, -128, -129, 255, 256, 32767, 32768, -32769, 65536,
            Integer.MAX_VALUE, 1L << 31, 1L << 32, (1L << 32) + 5, Long.MAX_VALUE, Long.MIN_VALUE};
        for (long v : values) {
            items(0, v, (byte) v);
            items(1, v, (short) v);
            items(2, v, (int) v);
            items(3, v, v);
            items(4, v, v == 0 ? 0 : 1);
        }
        items(0, 200, -56);
        items(1, 40000, -25536);
        items(2, 3000000000L, -1294967296);
        items(4, 256, 1);
        ShapeMoves x = new ShapeMoves();
        due.is("tape -1", x.item(-1, 0, 0), -1);
        due.is("tape 6", x.item(6, 0, 0), -1);
        due.is("nothing", x.item(0, 0, 0), -11);
        due.is("nothing ahead of place", x.item(0, -1, 0), -11);
        x.tape(0, 1, 2);
        due.is("place -1", x.item(0, -1, 0), -13);
        due.is("place 2", x.item(0, 2, 0), -13);
        due.is("far place", x.item(0, MOST, 0), -13);
        x.item(0, 1, 7);
        x.item(0, 1, 8);
        due.is("the last one told", x.peek(0, 1), 8);
    }

    private static void peek() {
        due.promise("35 peek");
        ShapeMoves x = new ShapeMoves();
        due.is("tape -1", x.peek(-1, 0), NO);
        due.is("tape 6", x.peek(6, 0), NO);
        due.is("nothing", x.peek(0, 0), NO);
        x.tape(0, 3, 2);
        due.is("place -1", x.peek(0, -1), NO);
        due.is("place 2", x.peek(0, 2), NO);
        due.is("far place", x.peek(0, MOST), NO);
        due.is("0 at first", x.peek(0, 1), 0);
        x.item(0, 0, -7);
        x.item(0, 1, Long.MAX_VALUE);
        due.is("first", x.peek(0, 0), -7);
        due.is("second", x.peek(0, 1), Long.MAX_VALUE);
        due.is("another tape", x.peek(1, 0), NO);
        x.tape(0, 3, 1);
        due.is("shorter now", x.peek(0, 1), NO);
    }

    /** Five ints 1 .. 5 on tape 0 and five on tape 1, 11 .. 15. */
    private static ShapeMoves twoRows() {
        ShapeMoves x = new ShapeMoves();
        for (int tape = 0; tape < 2; tape++) {
            x.tape(tape, 2, 5);
            for (int i = 0; i < 5; i++) {
                x.item(tape, i, 10 * tape + i + 1);
            }
        }
        return x;
    }

    private static void holds(String call, ShapeMoves x, int tape, int... wants) {
        for (int i = 0; i < wants.length; i++) {
            due.is(call + ", item " + i, x.peek(tape, i), wants[i]);
        }
    }

    private static void shift() {
        due.promise("36 shift");
        ShapeMoves x = twoRows();
        due.is("to another", x.shift(0, 1, 1, 2, 3), 3);
        holds("to another", x, 1, 11, 12, 2, 3, 4);
        holds("from it", x, 0, 1, 2, 3, 4, 5);
        x = twoRows();
        due.is("upwards", x.shift(0, 0, 0, 1, 4), 4);
        holds("upwards", x, 0, 1, 1, 2, 3, 4);
        x = twoRows();
        due.is("downwards", x.shift(0, 1, 0, 0, 4), 4);
        holds("downwards", x, 0, 2, 3, 4, 5, 5);
        x = twoRows();
        due.is("whole", x.shift(1, 0, 0, 0, 5), 5);
        holds("whole", x, 0, 11, 12, 13, 14, 15);
        due.is("onto itself", x.shift(1, 0, 1, 0, 5), 5);
        holds("onto itself", x, 1, 11, 12, 13, 14, 15);
        due.is("none", x.shift(1, 0, 0, 0, 0), 0);
        due.is("none at the ends", x.shift(1, 5, 0, 5, 0), 0);
        x.tape(2, 2, 0);
        due.is("none of none", x.shift(2, 0, 2, 0, 0), 0);
        for (int sort = 0; sort < 5; sort++) {
            x.tape(3, sort, 60);
            x.tape(4, sort, 60);
            x.item(3, 59, 1);
            due.is("sort " + sort, x.shift(3, 59, 4, 0, 1), 1);
            due.is("it came", x.peek(4, 0), 1);
        }
    }

    private static void shiftRefused() {
        due.promise("36 shift, refused");
        ShapeMoves x = twoRows();
        x.tape(2, 3, 5);
        due.is("tape -1", x.shift(-1, 0, 0, 0, 1), -1);
        due.is("tape 6", x.shift(6, 0, 0, 0, 1), -1);
        due.is("other -1", x.shift(0, 0, -1, 0, 1), -1);
        due.is("other 6", x.shift(0, 0, 6, 0, 1), -1);
        due.is("no tape ahead of nothing", x.shift(5, 0, 6, 0, 1), -1);
        due.is("nothing there", x.shift(5, 0, 0, 0, 1), -11);
        due.is("nothing at the other", x.shift(0, 0, 5, 0, 1), -11);
        due.is("nothing ahead of place", x.shift(0, -1, 5, -1, -1), -11);
        due.is("nothing at both", x.shift(4, 0, 5, 0, 0), -11);
        due.is("unlike sorts", x.shift(0, 0, 2, 0, 1), -12);
        due.is("unlike sorts, none", x.shift(2, 0, 0, 0, 0), -12);
        due.is("unlike sorts ahead of place", x.shift(0, -1, 2, 9, -1), -12);
        int[][] places = {
            {-1, 0, 1}, {0, -1, 1}, {0, 0, -1}, {0, 0, 6}, {1, 0, 5}, {0, 1, 5}, {5, 0, 1}, {0, 5, 1},
            {6, 0, 0}, {0, 6, 0}, {MOST, 0, 1}, {0, MOST, 1}, {1, 1, MOST}, {MOST, MOST, MOST},
            {LEAST, 0, 1}, {0, LEAST, 1}, {0, 0, LEAST}, {-1, 0, 0}, {0, -1, 0}, {1, 1, -1}};
        for (int[] p : places) {
            due.is("from " + p[0] + " to " + p[1] + ", " + p[2], x.shift(0, p[0], 1, p[1], p[2]), -13);
        }
        x.tape(3, 2, 2);
        due.is("beyond the other's end alone", x.shift(0, 0, 3, 0, 3), -13);
        due.is("beyond the first's end alone", x.shift(3, 0, 0, 0, 3), -13);
        holds("nothing changed", x, 0, 1, 2, 3, 4, 5);
        holds("nothing changed in the other", x, 1, 11, 12, 13, 14, 15);
    }
}
