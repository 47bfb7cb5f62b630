import java.util.function.Consumer;
import java.util.function.ToLongFunction;

/**
 * Promises 29 to 36, and what the Terms say of JUDGED, THE IMAGE and TAPES: each sentence that
 * names a boundary has a test of its own, named by the sentence.
 */
public final class TapesEdgesTest {
    private static final long NO = Long.MIN_VALUE;
    private static final int LEAST = Integer.MIN_VALUE;
    private static final int MOST = Integer.MAX_VALUE;
    /** No tapes, sorts or places; of some the lowest bits are. */
    private static final int[] FAR = {LEAST, MOST, 256, 65536, -256, LEAST + 1, MOST - 1, 100};
    private static final Due due = new Due("TapesEdgesTest");

    public static void main(String[] args) {
        judgeNone();
        judgeCast();
        judgeFromThatPlaceOn();
        judgeAllSo();
        judgeRowEnds();
        judgePlaceBelow();
        judgePlaceBehind();
        judgeHoldsNothing();
        judgeFirstOtherwise();
        imageHowMany();
        imageIsTheLast();
        undoState();
        undoAll();
        undoToNothing();
        undoNotTextNorTapes();
        undoAgain();
        countBad();
        countLeastAndMost();
        tapeNone();
        tapeBad();
        tapeSize();
        tapeHowLong();
        tapeHoldsNothing();
        tapeAllNought();
        tapeInOrder();
        itemNone();
        itemNothing();
        itemPlace();
        itemLowestBits();
        itemBooleans();
        itemInOrder();
        peekNo();
        shiftNone();
        shiftNothing();
        shiftCast();
        shiftPlace();
        shiftToTheEnds();
        shiftOfNone();
        shiftAsTheyWere();
        shiftInOrder();
        atFirst();
        due.end();
    }

    private static void rich(String call, ToLongFunction<ShapeMoves> asked, long want) {
        due.keeps(call, SetUps::rich, asked, want);
    }

    private static void everywhere(String call, ToLongFunction<ShapeMoves> asked, long want) {
        due.keeps(call, SetUps::rich, asked, want);
        due.keeps(call + ", of nothing", SetUps::bare, asked, want);
        due.keeps(call + ", where all is full", SetUps::crowded, asked, want);
    }

    /** Tape 1 becomes a row of bytes with these items. */
    private static Consumer<ShapeMoves> bytes(Consumer<ShapeMoves> setUp, int... items) {
        return setUp.andThen(x -> {
            x.tape(1, 0, items.length);
            for (int i = 0; i < items.length; i++) {
                x.item(1, i, items[i]);
            }
        });
    }

    private static void judged(String name, int want, int from, Consumer<ShapeMoves> setUp, int... items) {
        due.keeps(name, bytes(setUp, items), x -> x.judge(1, from), want);
    }

    // ---- 29

    private static void judgeNone() {
        due.promise("29 'NONE: tape'");
        rich("tape 0", x -> x.judge(0, 0), -5);
        rich("tape 5", x -> x.judge(5, 0), 100);
        everywhere("tape -1", x -> x.judge(-1, 0), -1);
        everywhere("tape 6", x -> x.judge(6, 0), -1);
        everywhere("tape 6, place -1", x -> x.judge(6, -1), -1);
        for (int far : FAR) {
            everywhere("tape " + far, x -> x.judge(far, 0), -1);
        }
    }

    private static void judgeCast() {
        due.promise("29 'CAST: it is no row of bytes'");
        int[] places = {0, 1, -1, 60, LEAST, MOST};
        for (int i = 1; i <= 4; i++) {
            int tape = i;
            for (int place : places) {
                rich("sort " + i + ", place " + place, x -> x.judge(tape, place), -12);
            }
            due.keeps("sort " + i + " without items", x -> x.tape(1, tape, 0), x -> x.judge(1, 0), -12);
        }
        rich("a row of bytes", x -> x.judge(0, 1), 0);
        due.keeps("a row of no bytes", x -> x.tape(1, 0, 0), x -> x.judge(1, 0), 100);
    }

    private static void judgeFromThatPlaceOn() {
        due.promise("29, Terms JUDGED: 'the first that is otherwise (counted from 0 from that place on)'");
        judged("the first of all", 0, 0, SetUps::rich, 1, 1, 4, 5);
        judged("the second", 1, 0, SetUps::rich, 0, 0, 4, 5);
        judged("the last", 3, 0, SetUps::rich, 0, 1, 4, 6);
        judged("from place 2 on: the first", 0, 2, SetUps::rich, 0, 1, 4, 5);
        judged("from place 2 on: the last", 3, 2, SetUps::rich, 9, 9, 0, 1, 4, 4);
        judged("from place 2 on: none", -5, 2, SetUps::rich, 9, 9, 0, 1, 4, 5);
        judged("below 0 is otherwise", 1, 0, SetUps::rich, 0, -1, 4, 5);
        judged("like but for its highest bit", 1, 0, SetUps::rich, 0, -127, 4, 5);
        judged("not by numbers", 1, 0, SetUps::rich, 0, 4, 1, 5);
    }

    private static void judgeAllSo() {
        due.promise("29, Terms JUDGED: '-5: none'");
        judged("as long as THE GROUP", -5, 0, SetUps::rich, 0, 1, 4, 5);
        judged("longer", -5, 0, SetUps::rich, 0, 1, 4, 5, 9);
        judged("one alone", -5, 0, SetUps::oneSided, 0);
        judged("one alone at the end", -5, 2, SetUps::oneSided, 5, 5, 0);
        int[] all = new int[60];
        for (int i = 0; i < 48; i++) {
            all[12 + i] = i;
        }
        judged("all 48, to the row's end", -5, 12, SetUps::bare, all);
        all[59] = 46;
        judged("all but the last of 48", 47, 12, SetUps::bare, all);
    }

    private static void judgeRowEnds() {
        due.promise("29, Terms JUDGED: '100 and how many were looked at, if the row ends ahead of that'");
        judged("after three of four", 103, 0, SetUps::rich, 0, 1, 4);
        judged("after one of four", 101, 0, SetUps::rich, 0);
        judged("after one of four, from place 2 on", 101, 2, SetUps::rich, 0, 1, 0);
        judged("after none", 100, 0, SetUps::rich);
        int[] all = new int[60];
        for (int i = 0; i < 47; i++) {
            all[13 + i] = i;
        }
        judged("after 47 of 48", 147, 13, SetUps::bare, all);
        judged("one alone, of none", 100, 0, SetUps::oneSided);
    }

    private static void judgePlaceBelow() {
        due.promise("29, Terms JUDGED: '(or the place is below 0'");
        rich("-1", x -> x.judge(0, -1), 100);
        rich("-4", x -> x.judge(0, -4), 100);
        rich("far below", x -> x.judge(0, LEAST), 100);
        judged("-1 of no bytes", 100, -1, SetUps::rich);
        judged("0 is no place below", 0, 0, SetUps::rich, 7);
    }

    private static void judgePlaceBehind() {
        due.promise("29, Terms JUDGED: 'if the row ends': from its end on, and behind");
        judged("the last place", 101, 3, SetUps::rich, 9, 9, 9, 0);
        judged("the end", 100, 4, SetUps::rich, 0, 1, 4, 5);
        judged("behind the end", 100, 5, SetUps::rich, 0, 1, 4, 5);
        judged("far behind", 100, MOST, SetUps::rich, 0, 1, 4, 5);
        judged("far behind, one alone", 100, MOST, SetUps::oneSided, 0);
        judged("the end of 60", 100, 60, SetUps::bare, new int[60]);
        judged("the last of 60", 101, 59, SetUps::bare, new int[60]);
    }

    private static void judgeHoldsNothing() {
        due.promise("29, Terms JUDGED: 'or the TAPE holds nothing)'");
        int[] places = {0, 1, -1, 60, LEAST, MOST};
        for (int place : places) {
            rich("place " + place, x -> x.judge(5, place), 100);
            due.keeps("of nothing, place " + place, SetUps::bare, x -> x.judge(0, place), 100);
            due.keeps("it held a row, place " + place, x -> {
                x.tape(2, 1, 3);
                x.tape(2, -1, 0);
            }, x -> x.judge(2, place), 100);
        }
    }

    private static void judgeFirstOtherwise() {
        due.promise("29, Terms JUDGED: otherwise ahead of the row's end");
        judged("the last item is otherwise", 2, 0, SetUps::rich, 0, 1, 5);
        judged("the last item is so", 103, 0, SetUps::rich, 0, 1, 4);
        judged("the first is otherwise, the row ends", 0, 0, SetUps::rich, 1);
    }

    // ---- 30

    private static void imageHowMany() {
        due.promise("30 'THE IMAGE is taken: how many POINTS there are'");
        due.keeps("0, as that of nothing", SetUps::image, x -> x.image(), 0);
        ShapeMoves x = new ShapeMoves();
        for (int i = 0; i < 8; i++) {
            x.point(i % 4, i / 4, 0, 0);
            due.is("of so many", x.image(), i + 1);
            due.is("so many back", x.undo(), i + 1);
        }
        due.keeps("8, as it is", SetUps::crowded, y -> y.image(), 8);
    }

    private static void imageIsTheLast() {
        due.promise("30: of two the last is THE IMAGE");
        ShapeMoves x = new ShapeMoves();
        SetUps.crowded(x);
        x.drop(0);
        x.see(-1, true);
        x.event(-1, 0);
        x.book(-1, 0);
        due.is("seven", x.image(), 7);
        x.drop(0);
        x.see(1, true);
        x.event(0, 0);
        x.book(0, 1);
        due.is("seven again", x.undo(), 7);
        for (int what = 0; what < 3; what++) {
            due.is("count(" + what + ")", x.count(what), 0);
        }
        due.is("the first is the second of then", x.of(0, 2), -1);
    }

    // ---- 31

    private static void undoState() {
        due.promise("31 'STATE: there is none'");
        due.keeps("of nothing", SetUps::bare, x -> x.undo(), -3);
        due.keeps("of corners", SetUps::corners, x -> x.undo(), -3);
        due.keeps("of some rows", x -> {
            x.point(1, 2, 3, 0);
            x.see(0, true);
            x.event(0, 0);
            x.book(0, 1);
            x.feed('d');
            x.tape(0, 0, 1);
        }, x -> x.undo(), -3);
        due.keeps("there is one, of nothing", SetUps::image, x -> x.undo(), 0);
    }

    private static void undoAll() {
        due.promise("31 'All is as THE IMAGE: how many POINTS'; Terms 'THE IMAGE: POINTS, SEEN, EVENTS, the BOOK'");
        ShapeMoves x = new ShapeMoves();
        ShapeMoves y = new ShapeMoves();
        SetUps.crowded(x);
        SetUps.crowded(y);
        x.drop(7);
        x.drop(0);
        x.mark(0, 4);
        x.point(3, 3, 3, 3);
        x.see(-1, false);
        x.see(9, false);
        x.event(-1, 0);
        x.event(3, 3);
        x.book(-1, 0);
        x.book(9, 6);
        due.is("undo()", x.undo(), 8);
        due.isSame("all of it", Whole.of(x), Whole.of(y));
        due.keeps("as it is already", SetUps::crowded, z -> z.undo(), 8);
    }

    private static void undoToNothing() {
        due.promise("31 'All is as THE IMAGE': one of nothing");
        ShapeMoves x = new ShapeMoves();
        ShapeMoves y = new ShapeMoves();
        x.image();
        y.image();
        SetUps.corners(x);
        x.see(0, false);
        x.event(0, 0);
        x.book(1, 6);
        due.is("undo()", x.undo(), 0);
        due.isSame("all of it", Whole.of(x), Whole.of(y));
    }

    private static void undoNotTextNorTapes() {
        due.promise("31, Terms THE IMAGE: THE TEXT and TAPES are none of it");
        ShapeMoves x = new ShapeMoves();
        SetUps.rich(x);
        due.is("undo()", x.undo(), 1);
        due.is("THE TEXT stays", x.count(3), 6);
        due.is("a row of bytes stays", x.peek(0, 3), 5);
        due.is("a row of booleans stays", x.peek(4, 2), 1);
        due.is("nothing stays nothing", x.item(5, 0, 0), -11);
        due.is("THE TEXT is that", x.read(), 1);
        due.is("its mark", x.of(0, 3), 4);
    }

    private static void undoAgain() {
        due.promise("31: THE IMAGE is there behind undo, too, and what changes then isn't it");
        ShapeMoves x = new ShapeMoves();
        SetUps.rich(x);
        for (int i = 0; i < 3; i++) {
            due.is("undo()", x.undo(), 1);
            due.is("its mark", x.of(0, 3), 1);
            due.is("so many SEEN", x.count(0), 1);
            due.is("so many EVENTS", x.count(1), 1);
            due.is("so many of the BOOK", x.count(2), 1);
            due.is("its mark changes", x.mark(0, i), 1);
            due.is("rows come", x.see(0, true) + x.event(0, 0) + x.book(0, 1), 6);
            due.is("points come", x.point(0, 0, i, 0), 1);
        }
    }

    // ---- 32

    private static void countBad() {
        due.promise("32 'BAD'");
        everywhere("-1", x -> x.count(-1), -2);
        everywhere("4", x -> x.count(4), -2);
        for (int far : FAR) {
            everywhere("what " + far, x -> x.count(far), -2);
        }
    }

    private static void countLeastAndMost() {
        due.promise("32 'How many: 0 SEEN, 1 EVENTS, 2 of the BOOK, 3 bytes of THE TEXT'");
        int[] some = {2, 2, 2, 6};
        int[] most = {5, 8, 8, 100};
        for (int i = 0; i < 4; i++) {
            int what = i;
            due.keeps("of nothing", SetUps::bare, x -> x.count(what), 0);
            due.keeps("of some", SetUps::rich, x -> x.count(what), some[what]);
            due.keeps("of all", SetUps::crowded, x -> x.count(what), most[what]);
        }
        ShapeMoves x = new ShapeMoves();
        x.see(0, true);
        due.is("SEEN alone", 1000 * x.count(0) + 100 * x.count(1) + 10 * x.count(2) + x.count(3), 1000);
        x.book(0, 1);
        due.is("and the BOOK", 1000 * x.count(0) + 100 * x.count(1) + 10 * x.count(2) + x.count(3), 1010);
        x.event(0, 1);
        x.event(0, 1);
        due.is("and EVENTS", 1000 * x.count(0) + 100 * x.count(1) + 10 * x.count(2) + x.count(3), 1210);
    }

    // ---- 33

    private static void tapeNone() {
        due.promise("33 'NONE: tape'; Terms 'TAPES 0 .. 5'");
        for (int tape = 0; tape < 6; tape++) {
            ShapeMoves x = new ShapeMoves();
            due.is("tape " + tape, x.tape(tape, 3, 1), 1);
            for (int other = 0; other < 6; other++) {
                due.is("it alone", x.peek(other, 0), other == tape ? 0 : NO);
            }
        }
        everywhere("-1", x -> x.tape(-1, 0, 1), -1);
        everywhere("6", x -> x.tape(6, 0, 1), -1);
        everywhere("6 shall hold nothing", x -> x.tape(6, -1, 0), -1);
        for (int far : FAR) {
            everywhere("tape " + far, x -> x.tape(far, 0, 1), -1);
        }
    }

    private static void tapeBad() {
        due.promise("33 'BAD: sort, n above 60'");
        for (int i = 0; i < 6; i++) {
            int tape = i;
            everywhere("sort -2", x -> x.tape(tape, -2, 1), -2);
            everywhere("sort 5", x -> x.tape(tape, 5, 1), -2);
        }
        for (int i = 0; i < 5; i++) {
            int sort = i;
            everywhere("61 of sort " + sort, x -> x.tape(0, sort, 61), -2);
            everywhere("far above of sort " + sort, x -> x.tape(0, sort, MOST), -2);
        }
        everywhere("both", x -> x.tape(0, 5, 61), -2);
        for (int far : FAR) {
            everywhere("sort " + far, x -> x.tape(0, far, 1), -2);
        }
    }

    private static void tapeSize() {
        due.promise("33 'SIZE'; Terms 'SIZE (-14): a size below 0'");
        for (int i = 0; i < 5; i++) {
            int sort = i;
            everywhere("-1 of sort " + sort, x -> x.tape(0, sort, -1), -14);
            everywhere("-1 of sort " + sort + ", tape 5", x -> x.tape(5, sort, -1), -14);
            everywhere("far below, of sort " + sort, x -> x.tape(0, sort, LEAST), -14);
        }
    }

    private static void tapeHowLong() {
        due.promise("33 'a row of n (0 .. 60) of a sort'");
        int[] lengths = {0, 1, 2, 59, 60};
        for (int sort = 0; sort < 5; sort++) {
            for (int n : lengths) {
                ShapeMoves x = new ShapeMoves();
                due.is("tape", x.tape(2, sort, n), 1);
                due.is("the last of " + n, x.peek(2, n - 1), n == 0 ? NO : 0);
                due.is("behind it", x.peek(2, n), NO);
                due.is("the last takes 1", x.item(2, n - 1, 1), n == 0 ? -13 : 1);
                due.is("behind it none does", x.item(2, n, 1), -13);
            }
        }
    }

    private static void tapeHoldsNothing() {
        due.promise("33 'or holds nothing (sort -1: n does not matter): 1'");
        int[] lengths = {0, 1, -1, 60, 61, LEAST, MOST};
        for (int n : lengths) {
            due.keeps("what holds nothing, n " + n, SetUps::rich, x -> x.tape(5, -1, n), 1);
            for (int tape = 0; tape < 5; tape++) {
                ShapeMoves x = new ShapeMoves();
                SetUps.rich(x);
                due.is("n " + n, x.tape(tape, -1, n), 1);
                due.is("no item", x.peek(tape, 0), NO);
                due.is("nothing", x.item(tape, 0, 1), -11);
                due.is("the next one stays", x.item(tape + 1, 0, 1), tape == 4 ? -11 : 1);
            }
        }
    }

    private static void tapeAllNought() {
        due.promise("33 'all 0'");
        for (int sort = 0; sort < 5; sort++) {
            ShapeMoves x = new ShapeMoves();
            x.tape(3, sort, 60);
            for (int i = 0; i < 60; i++) {
                x.item(3, i, 1);
            }
            due.is("the same again", x.tape(3, sort, 60), 1);
            for (int i = 0; i < 60; i++) {
                due.is("item " + i, x.peek(3, i), 0);
            }
            x.item(3, 4, 1);
            x.tape(3, sort, 2);
            x.tape(3, (sort + 1) % 5, 60);
            due.is("shorter, then longer", x.peek(3, 4), 0);
            x.item(3, 4, 1);
            x.tape(3, -1, 0);
            x.tape(3, sort, 5);
            due.is("nothing, then a row", x.peek(3, 4), 0);
        }
    }

    private static void tapeInOrder() {
        due.promise("33 NONE, BAD, SIZE: 'the first that a call's words name'");
        everywhere("NONE ahead of BAD (sort)", x -> x.tape(6, 5, 1), -1);
        everywhere("NONE ahead of BAD (n)", x -> x.tape(-1, 0, 61), -1);
        everywhere("NONE ahead of SIZE", x -> x.tape(6, 0, -1), -1);
        everywhere("BAD ahead of SIZE", x -> x.tape(0, 5, -1), -2);
        everywhere("BAD, below, ahead of SIZE", x -> x.tape(0, -2, -1), -2);
        everywhere("NONE ahead of both", x -> x.tape(6, 5, -1), -1);
    }

    // ---- 34

    private static void itemNone() {
        due.promise("34 'NONE'");
        everywhere("tape -1", x -> x.item(-1, 0, 1), -1);
        everywhere("tape 6", x -> x.item(6, 0, 1), -1);
        for (int far : FAR) {
            everywhere("tape " + far, x -> x.item(far, 0, 1), -1);
        }
    }

    private static void itemNothing() {
        due.promise("34 'NOTHING'; Terms 'NOTHING (-11): nothing is there'");
        rich("tape 5", x -> x.item(5, 0, 1), -11);
        for (int i = 0; i < 6; i++) {
            int tape = i;
            due.keeps("of nothing, tape " + i, SetUps::bare, x -> x.item(tape, 0, 1), -11);
        }
        due.keeps("a row of no items isn't nothing", x -> x.tape(0, 0, 0), x -> x.item(0, 0, 1), -13);
    }

    private static void itemPlace() {
        due.promise("34 'PLACE'; Terms 'PLACE (-13): no such place'");
        int[] lengths = {4, 2, 2, 2, 3};
        for (int i = 0; i < 5; i++) {
            int tape = i;
            int n = lengths[i];
            ShapeMoves x = new ShapeMoves();
            SetUps.rich(x);
            due.is("the first", x.item(tape, 0, 1), 1);
            due.is("the last", x.item(tape, n - 1, 0), 1);
            due.is("the first is so", x.peek(tape, 0), 1);
            due.is("the last is so", x.peek(tape, n - 1), 0);
            rich("-1", y -> y.item(tape, -1, 1), -13);
            rich("its end", y -> y.item(tape, n, 1), -13);
            for (int far : FAR) {
                rich("place " + far, y -> y.item(tape, far, 1), -13);
            }
        }
        due.keeps("60 of 60", SetUps::crowded, x -> x.item(0, 60, 1), -13);
        due.keeps("59 of 60, as it was", SetUps::crowded, x -> x.item(0, 59, 0), 1);
    }

    private static void cut(int sort, long v, long want) {
        ShapeMoves x = new ShapeMoves();
        x.tape(0, sort, 3);
        due.is("item, sort " + sort + ": " + v, x.item(0, 1, v), 1);
        due.is("then, sort " + sort + ": " + v, x.peek(0, 1), want);
        due.is("the one ahead stays", x.peek(0, 0), 0);
        due.is("the one behind stays", x.peek(0, 2), 0);
    }

    private static void itemLowestBits() {
        due.promise("34 'v (its lowest bits, as many as an item has'");
        cut(0, 127, 127);
        cut(0, 128, -128);
        cut(0, -128, -128);
        cut(0, -129, 127);
        cut(0, 255, -1);
        cut(0, 256, 0);
        cut(0, 1L << 40, 0);
        cut(0, Long.MAX_VALUE, -1);
        cut(0, Long.MIN_VALUE, 0);
        cut(1, 32767, 32767);
        cut(1, 32768, -32768);
        cut(1, -32768, -32768);
        cut(1, -32769, 32767);
        cut(1, 65535, -1);
        cut(1, 65536, 0);
        cut(1, Long.MIN_VALUE + 5, 5);
        cut(2, MOST, MOST);
        cut(2, MOST + 1L, LEAST);
        cut(2, LEAST, LEAST);
        cut(2, LEAST - 1L, MOST);
        cut(2, 4294967295L, -1);
        cut(2, 4294967296L, 0);
        cut(3, Long.MAX_VALUE, Long.MAX_VALUE);
        cut(3, Long.MIN_VALUE, Long.MIN_VALUE);
        cut(3, 4294967296L, 4294967296L);
        cut(3, -1, -1);
    }

    private static void itemBooleans() {
        due.promise("34 'booleans: whether v is not 0)'; Terms '4 booleans (items 0, 1)'");
        cut(4, 0, 0);
        cut(4, 1, 1);
        cut(4, 2, 1);
        cut(4, -1, 1);
        cut(4, 256, 1);
        cut(4, 4294967296L, 1);
        cut(4, Long.MIN_VALUE, 1);
        ShapeMoves x = new ShapeMoves();
        x.tape(0, 4, 1);
        x.item(0, 0, 5);
        x.item(0, 0, 0);
        due.is("0 again", x.peek(0, 0), 0);
    }

    private static void itemInOrder() {
        due.promise("34 NONE, NOTHING, PLACE: 'the first that a call's words name'");
        rich("NONE ahead of NOTHING and PLACE", x -> x.item(6, -1, 1), -1);
        rich("NOTHING ahead of PLACE", x -> x.item(5, -1, 1), -11);
        rich("NOTHING ahead of PLACE, behind", x -> x.item(5, 60, 1), -11);
    }

    // ---- 35

    private static void peekNo() {
        due.promise("35 'NO: no such TAPE, nothing there, no such place'");
        rich("the first", x -> x.peek(1, 0), 300);
        rich("the last", x -> x.peek(1, 1), -2);
        rich("tape 0", x -> x.peek(0, 3), 5);
        rich("nothing there", x -> x.peek(5, 0), NO);
        rich("nothing there, place -1", x -> x.peek(5, -1), NO);
        rich("place -1", x -> x.peek(1, -1), NO);
        rich("its end", x -> x.peek(1, 2), NO);
        due.keeps("59 of 60", SetUps::crowded, x -> x.peek(1, 59), 0);
        due.keeps("60 of 60", SetUps::crowded, x -> x.peek(1, 60), NO);
        due.keeps("a row of no items", x -> x.tape(0, 3, 0), x -> x.peek(0, 0), NO);
        everywhere("tape -1", x -> x.peek(-1, 0), NO);
        everywhere("tape 6", x -> x.peek(6, 0), NO);
        for (int far : FAR) {
            everywhere("tape " + far, x -> x.peek(far, 0), NO);
            everywhere("place " + far, x -> x.peek(0, far), NO);
        }
    }

    // ---- 36

    /** Tapes 0 and 1 are rows of five ints, 1 .. 5 and 11 .. 15; 2 of two, 3 of longs, 4 of none. */
    private static void rows(ShapeMoves x) {
        for (int i = 0; i < 5; i++) {
            if (i == 0) {
                x.tape(0, 2, 5);
                x.tape(1, 2, 5);
            }
            x.item(0, i, i + 1);
            x.item(1, i, i + 11);
        }
        x.tape(2, 2, 2);
        x.item(2, 0, 21);
        x.item(2, 1, 22);
        x.tape(3, 3, 5);
        x.item(3, 0, 31);
        x.tape(4, 2, 0);
    }

    private static void shifted(int tape, int i, int other, int j, int n, int... wants) {
        ShapeMoves x = new ShapeMoves();
        rows(x);
        String call = "shift(" + tape + ", " + i + ", " + other + ", " + j + ", " + n + ")";
        due.is(call, x.shift(tape, i, other, j, n), n);
        for (int k = 0; k < wants.length; k++) {
            due.is(call + ", item " + k, x.peek(other, k), wants[k]);
        }
        for (int k = 0; k < 5 && tape != other; k++) {
            due.is(call + ", item " + k + " it came from", x.peek(tape, k),
                    tape == 2 ? (k < 2 ? 21 + k : NO) : 10 * tape + k + 1);
        }
    }

    private static void shiftKeeps(int tape, int i, int other, int j, int n, int want) {
        due.keeps("shift(" + tape + ", " + i + ", " + other + ", " + j + ", " + n + ")", TapesEdgesTest::rows,
                x -> x.shift(tape, i, other, j, n), want);
    }

    private static void shiftNone() {
        due.promise("36 'NONE: tapes'");
        shiftKeeps(-1, 0, 0, 0, 1, -1);
        shiftKeeps(6, 0, 0, 0, 1, -1);
        shiftKeeps(0, 0, -1, 0, 1, -1);
        shiftKeeps(0, 0, 6, 0, 1, -1);
        shiftKeeps(6, 0, 6, 0, 0, -1);
        for (int far : FAR) {
            shiftKeeps(far, 0, 0, 0, 1, -1);
            shiftKeeps(0, 0, far, 0, 1, -1);
        }
    }

    private static void shiftNothing() {
        due.promise("36 'NOTHING'");
        shiftKeeps(5, 0, 0, 0, 1, -11);
        shiftKeeps(0, 0, 5, 0, 1, -11);
        shiftKeeps(5, 0, 5, 0, 0, -11);
        shiftKeeps(5, 0, 4, 0, 0, -11);
        shiftKeeps(4, 0, 4, 0, 0, 0);
    }

    private static void shiftCast() {
        due.promise("36 'CAST: of unlike sorts'");
        shiftKeeps(0, 0, 3, 0, 1, -12);
        shiftKeeps(3, 0, 0, 0, 1, -12);
        shiftKeeps(3, 0, 4, 0, 0, -12);
        for (int a = 0; a < 5; a++) {
            for (int b = 0; b < 5; b++) {
                int one = a;
                int two = b;
                due.keeps("sorts " + a + " and " + b, x -> {
                    x.tape(0, one, 2);
                    x.tape(1, two, 2);
                }, x -> x.shift(0, 0, 1, 0, 1), a == b ? 1 : -12);
            }
        }
    }

    private static void shiftPlace() {
        due.promise("36 'PLACE: n, i or j is below 0, or beyond either's end'");
        shiftKeeps(0, 0, 1, 0, -1, -13);
        shiftKeeps(0, -1, 1, 0, 1, -13);
        shiftKeeps(0, 0, 1, -1, 1, -13);
        shiftKeeps(0, 1, 1, 1, -1, -13);
        shiftKeeps(0, 0, 1, 0, 6, -13);
        shiftKeeps(0, 1, 1, 0, 5, -13);
        shiftKeeps(0, 0, 1, 1, 5, -13);
        shiftKeeps(0, 5, 1, 0, 1, -13);
        shiftKeeps(0, 0, 1, 5, 1, -13);
        shiftKeeps(0, 0, 2, 0, 3, -13);
        shiftKeeps(2, 0, 0, 0, 3, -13);
        shiftKeeps(0, 0, 2, 1, 2, -13);
        shiftKeeps(2, 1, 0, 0, 2, -13);
        shiftKeeps(4, 0, 0, 0, 1, -13);
        shiftKeeps(0, 0, 4, 0, 1, -13);
        shiftKeeps(0, 0, 0, 1, 5, -13);
        shiftKeeps(0, 1, 0, 0, 5, -13);
        int[] far = {LEAST, LEAST + 1, MOST, MOST - 1, MOST - 4};
        for (int f : far) {
            shiftKeeps(0, f, 1, 0, 1, -13);
            shiftKeeps(0, 0, 1, f, 1, -13);
            shiftKeeps(0, 0, 1, 0, f, -13);
            shiftKeeps(0, f, 1, f, f, -13);
            shiftKeeps(0, 1, 1, 1, f, -13);
            shiftKeeps(0, f, 1, 0, 0, -13);
            shiftKeeps(0, 0, 1, f, 0, -13);
        }
    }

    private static void shiftToTheEnds() {
        due.promise("36 'n items of a TAPE from i on come to another one (or the same) from j on: n'");
        shifted(0, 0, 1, 0, 5, 1, 2, 3, 4, 5);
        shifted(0, 4, 1, 4, 1, 11, 12, 13, 14, 5);
        shifted(0, 0, 1, 4, 1, 11, 12, 13, 14, 1);
        shifted(0, 4, 1, 0, 1, 5, 12, 13, 14, 15);
        shifted(0, 3, 2, 0, 2, 4, 5);
        shifted(2, 0, 0, 3, 2, 1, 2, 3, 21, 22);
        shifted(1, 1, 0, 2, 3, 1, 2, 12, 13, 14);
        ShapeMoves x = new ShapeMoves();
        SetUps.crowded(x);
        x.tape(1, 0, 60);
        x.item(0, 0, 7);
        x.item(0, 59, 8);
        due.is("60 items", x.shift(0, 0, 1, 0, 60), 60);
        due.is("the first of 60", x.peek(1, 0), 7);
        due.is("the last of 60", x.peek(1, 59), 8);
        due.is("61 are too many", x.shift(0, 0, 1, 0, 61), -13);
    }

    private static void shiftOfNone() {
        due.promise("36: n 0, from either's first place to its end, not beyond");
        shiftKeeps(0, 0, 1, 0, 0, 0);
        shiftKeeps(0, 5, 1, 0, 0, 0);
        shiftKeeps(0, 0, 1, 5, 0, 0);
        shiftKeeps(0, 5, 1, 5, 0, 0);
        shiftKeeps(4, 0, 0, 5, 0, 0);
        shiftKeeps(0, 5, 4, 0, 0, 0);
        shiftKeeps(0, 6, 1, 0, 0, -13);
        shiftKeeps(0, 0, 1, 6, 0, -13);
        shiftKeeps(4, 1, 0, 0, 0, -13);
        shiftKeeps(0, 0, 4, 1, 0, -13);
        shiftKeeps(0, -1, 1, 0, 0, -13);
        shiftKeeps(0, 0, 1, -1, 0, -13);
    }

    private static void shiftAsTheyWere() {
        due.promise("36 'as they all were before'");
        shifted(0, 0, 0, 1, 4, 1, 1, 2, 3, 4);
        shifted(0, 1, 0, 0, 4, 2, 3, 4, 5, 5);
        shifted(0, 0, 0, 2, 3, 1, 2, 1, 2, 3);
        shifted(0, 2, 0, 0, 3, 3, 4, 5, 4, 5);
        shifted(0, 0, 0, 4, 1, 1, 2, 3, 4, 1);
        shifted(0, 0, 0, 0, 5, 1, 2, 3, 4, 5);
        shifted(0, 2, 0, 2, 1, 1, 2, 3, 4, 5);
    }

    private static void shiftInOrder() {
        due.promise("36 NONE, NOTHING, CAST, PLACE: 'the first that a call's words name'");
        shiftKeeps(6, 0, 5, 0, 1, -1);
        shiftKeeps(5, 0, 6, 0, 1, -1);
        shiftKeeps(5, -1, -1, -1, -1, -1);
        shiftKeeps(0, -1, 6, 0, 1, -1);
        shiftKeeps(5, -1, 0, 0, 1, -11);
        shiftKeeps(0, 0, 5, 0, -1, -11);
        shiftKeeps(3, 0, 5, 99, 1, -11);
        shiftKeeps(5, 0, 3, 99, 1, -11);
        shiftKeeps(0, -1, 3, 0, 1, -12);
        shiftKeeps(0, 0, 3, -1, 1, -12);
        shiftKeeps(0, 0, 3, 0, -1, -12);
        shiftKeeps(3, 9, 4, 9, 9, -12);
    }

    // ---- Terms

    private static void atFirst() {
        due.promise("33 to 36, Terms 'TAPES 0 .. 5 hold nothing (at first)'");
        for (int i = 0; i < 6; i++) {
            int tape = i;
            due.keeps("peek", SetUps::bare, x -> x.peek(tape, 0), NO);
            due.keeps("item", SetUps::bare, x -> x.item(tape, 0, 0), -11);
            due.keeps("shift", SetUps::bare, x -> x.shift(tape, 0, tape, 0, 0), -11);
            due.keeps("judge", SetUps::bare, x -> x.judge(tape, 0), 100);
        }
    }
}
