import java.util.function.Consumer;

/**
 * All promises, and the Terms' 'what is asked changes nothing': whatever was asked ahead of a
 * change, what is asked behind it is as if it hadn't been asked; and what changes shows.
 */
public final class AskedEdgesTest {
    private static final Due due = new Due("AskedEdgesTest");

    public static void main(String[] args) {
        twice();
        byPoint();
        byMark();
        byDrop();
        byRead();
        byUndo();
        byRows();
        byRefusedCalls();
        oneAfterAnother();
        the512thCall();
        due.end();
    }

    /** One is asked all ahead of the change, the other isn't; THE GROUP is so large then. */
    private static void changed(String name, Consumer<ShapeMoves> setUp, Consumer<ShapeMoves> change, int group) {
        ShapeMoves asked = new ShapeMoves();
        ShapeMoves other = new ShapeMoves();
        setUp.accept(asked);
        setUp.accept(other);
        Whole.asked(asked);
        change.accept(asked);
        change.accept(other);
        due.is(name + ": how many are in THE GROUP", asked.told(1), group);
        due.isSame(name + ", asked ahead of it", Whole.of(asked), Whole.of(other));
    }

    private static void twice() {
        due.promise("5 to 32 'what is asked changes nothing': asked twice, all answer the same");
        askedTwice("nothing", SetUps::bare);
        askedTwice("some of all", SetUps::rich);
        askedTwice("as much as there can be", SetUps::crowded);
        askedTwice("the rod", SetUps::rod);
        askedTwice("eight unlike", SetUps::oneSided);
    }

    private static void askedTwice(String name, Consumer<ShapeMoves> setUp) {
        ShapeMoves x = new ShapeMoves();
        setUp.accept(x);
        due.isSame(name, Whole.asked(x), Whole.asked(x));
    }

    private static void byPoint() {
        due.promise("2 'what is asked changes nothing': then a POINT comes");
        changed("to none", SetUps::bare, x -> x.point(1, 2, 3, 4), 1);
        changed("to none, at the middle", SetUps::bare, x -> x.point(0, 0, 0, 4), 48);
        changed("to three", SetUps::rich, x -> x.point(0, -2, 0, 3), 8);
        changed("to the cross", SetUps::cross, x -> x.point(0, 0, 1, 3), 4);
        changed("to the pinwheel", SetUps::pinwheel, x -> x.point(3, 2, 1, 0), 1);
    }

    private static void byMark() {
        due.promise("3 'what is asked changes nothing': then a MARK changes");
        changed("of the rod", SetUps::rod, x -> x.mark(0, 1), 8);
        changed("of unlike ones", SetUps::mixed, x -> x.mark(1, 0), 16);
        changed("of the eighth corner", SetUps::corners, x -> x.mark(7, 1), 6);
        changed("to what it is", SetUps::corners, x -> x.mark(7, 0), 48);
    }

    private static void byDrop() {
        due.promise("4 'what is asked changes nothing': then a POINT goes");
        changed("of three", SetUps::rich, x -> x.drop(2), 16);
        changed("of the rod", SetUps::rod, x -> x.drop(1), 8);
        changed("the first of eight", SetUps::corners, x -> x.drop(0), 6);
        changed("the only one", x -> x.point(1, 2, 3, 0), x -> x.drop(0), 48);
    }

    private static void byRead() {
        due.promise("8 'what is asked changes nothing': then THE TEXT is read");
        changed("a point comes", SetUps::bare, x -> Due.read(x, "p1,2,3,0"), 1);
        changed("a mark changes", SetUps::rod, x -> Due.read(x, "m03"), 8);
        changed("one goes", SetUps::corners, x -> Due.read(x, "d7"), 6);
        changed("a FAULT", SetUps::corners, x -> Due.read(x, "d7;"), 48);
        changed("a full text", SetUps::bare, x -> Due.read(x, SetUps.TEXT_OF_100), 6);
    }

    private static void byUndo() {
        due.promise("31 'what is asked changes nothing': then all is as THE IMAGE");
        changed("of less", SetUps::rich, x -> x.undo(), 8);
        changed("of nothing", x -> {
            x.image();
            SetUps.corners(x);
            x.mark(0, 1);
        }, x -> x.undo(), 48);
        changed("of more", x -> {
            SetUps.corners(x);
            x.image();
            x.drop(7);
            x.drop(0);
        }, x -> x.undo(), 48);
    }

    private static void byRows() {
        due.promise("21, 25, 27 'what is asked changes nothing': then a row comes");
        changed("SEEN", SetUps::rich, x -> x.see(5, false), 4);
        changed("EVENTS", SetUps::rich, x -> x.event(0, 0), 4);
        changed("the BOOK", SetUps::rich, x -> x.book(5, 3), 4);
        changed("none of any", SetUps::crowded, x -> {
            x.see(-1, true);
            x.event(-1, 0);
            x.book(-1, 0);
        }, 48);
    }

    private static void byRefusedCalls() {
        due.promise("Answers: 'What is answered so changes nothing'; all of them, one after the other");
        changed("of eight", SetUps::crowded, x -> {
            due.is("FULL", x.point(0, 0, 0, 0) + x.see(0, true) + x.event(0, 0) + x.book(0, 1) + x.feed(0), -20);
            due.is("STATE", x.point(1, 1, 1, 0), -3);
            due.is("BAD", x.point(4, 0, 0, 0) + x.mark(0, 5) + x.at(0, 0, 4) + x.feed(-1) + x.event(0, 8)
                    + x.book(0, 7) + x.count(4) + x.tape(0, 5, 0), -16);
            due.is("NONE", x.mark(8, 0) + x.drop(8) + x.product(48, 0) + x.move(48, 0) + x.takes(0, 8) + x.told(8)
                    + x.group(-1) + x.classOf(48, 0) + x.classAt(-1) + x.active(3) + x.see(48, true) + x.fits(8, 0)
                    + x.event(4, 0) + x.after(3) + x.book(48, 1) + x.judge(6, 0) + x.tape(6, 0, 0) + x.item(6, 0, 0)
                    + x.shift(6, 0, 0, 0, 0), -19);
            due.is("-9 and -1000", x.of(8, 0) + x.trace(48, 0) + x.motion(6, 0) + x.has(6, 0), -2018);
            due.is("NO", x.odds(8, 0, 0) & x.mean(2) & x.peek(6, 0), ShapeMoves.NO);
            due.is("the host's", x.item(2, 0, 0) + x.shift(0, 0, 1, 0, 0) + x.item(0, 60, 0) + x.tape(0, 0, -1),
                    -11 - 12 - 13 - 14);
        }, 48);
    }

    private static void oneAfterAnother() {
        due.promise("13 to 20: one object, shape after shape, each as a new object with that shape");
        String[] shapes = {"", "p0,0,1,0;p0,0,-1,0", "p1,2,0,0;p-2,1,0,0;p-1,-2,0,0;p2,-1,0,0;p0,0,1,0", "p1,2,3,0",
            "p2,0,0,0;p-2,0,0,0;p0,1,0,0;p0,-1,0,0", "p1,2,3,0;p2,3,1,0;p3,1,2,0", "p0,0,0,0", "p1,2,3,0;p-1,2,3,0",
            "p1,1,1,0;p1,-1,-1,0;p-1,1,-1,0;p-1,-1,1,0", "p1,0,0,0;p-1,0,0,1"};
        for (int i = 0; i < shapes.length; i++) {
            for (int j = 0; j < shapes.length; j++) {
                ShapeMoves x = new ShapeMoves();
                Due.read(x, shapes[i]);
                Whole.asked(x);
                while (x.told(0) > 0) {
                    x.drop(0);
                }
                Due.read(x, shapes[j]);
                ShapeMoves y = new ShapeMoves();
                Due.read(y, shapes[j]);
                due.isSame("'" + shapes[j] + "' behind '" + shapes[i] + "'", signsAndMotions(x), signsAndMotions(y));
                due.isSame("'" + shapes[j] + "' behind '" + shapes[i] + "', asked", Whole.asked(x), Whole.asked(y));
            }
        }
    }

    /** In some 170 calls. */
    private static String signsAndMotions(ShapeMoves x) {
        StringBuilder told = new StringBuilder();
        for (int k = 0; k < 17; k++) {
            told.append(' ').append(x.group(k));
            told.append(' ').append(x.classAt(k));
            told.append(' ').append(x.motion(0, k));
            told.append(' ').append(x.sign(1, k));
            told.append(' ').append(x.sign(3, k));
            told.append(' ').append(x.sign(7, k));
            told.append(' ').append(x.classOf(k, 1));
        }
        for (int k = 0; k < 9; k++) {
            told.append(' ').append(x.has(0, k));
            told.append(' ').append(x.has(4, k));
            told.append(' ').append(x.has(5, k));
        }
        return told.toString();
    }

    private static void the512thCall() {
        due.promise("1 to 36 'An object is used for at most 512 calls': the last of them");
        ShapeMoves x = new ShapeMoves();
        int[] groups = {16, 8, 8, 8, 8};
        due.is("the first", x.point(0, 0, 1, 0), 0);
        due.is("the second", x.point(0, 0, -1, 0), 1);
        for (int call = 3; call < 511; call += 2) {
            int v = (call - 1) / 2 % 5;
            due.is("call " + call, x.mark(1, v), call == 3 ? 0 : (v + 4) % 5);
            due.is("call " + (call + 1), x.told(1), groups[v]);
        }
        due.is("call 511", x.mark(1, 0), 4);
        due.is("call 512", x.told(1), 16);
    }
}
