import java.util.function.Consumer;
import java.util.function.ToLongFunction;

/** Counts the answers that are not as due, promise by promise. */
final class Due {
    private final String name;
    private String promise = "";
    private int asDue = 0;
    private int wrong = 0;

    Due(String name) {
        this.name = name;
    }

    /** What follows tests this promise. */
    void promise(String promise) {
        this.promise = promise;
    }

    void is(String call, long got, long want) {
        if (got == want) {
            asDue++;
            return;
        }
        wrong++;
        if (wrong <= 40) {
            System.out.println("  " + promise + ": " + call + " answered " + got + ", due is " + want);
        }
    }

    /**
     * The call answers so, and changes nothing: what it was called on then tells the same of
     * itself as another object with the same set-up that wasn't called.
     */
    void keeps(String call, Consumer<ShapeMoves> setUp, ToLongFunction<ShapeMoves> asked, long want) {
        ShapeMoves called = new ShapeMoves();
        ShapeMoves other = new ShapeMoves();
        setUp.accept(called);
        setUp.accept(other);
        is(call, asked.applyAsLong(called), want);
        isSame(call + ", what is there then", Whole.of(called), Whole.of(other));
    }

    void isSame(String call, String got, String want) {
        if (got.equals(want)) {
            asDue++;
            return;
        }
        wrong++;
        if (wrong <= 40) {
            System.out.println("  " + promise + ": " + call + " is" + got + "\n    due is" + want);
        }
    }

    /** Ends the program: with 1, if an answer was wrong or none was looked at. */
    void end() {
        System.out.println("  " + name + ": " + asDue + " answers as due, " + wrong + " not");
        System.exit(wrong == 0 && asDue > 0 ? 0 : 1);
    }

    /** Feeds a whole text and reads it. */
    static int read(ShapeMoves x, String text) {
        SetUps.feed(x, text);
        return x.read();
    }

    /** A new object with the points of a set-up. */
    static ShapeMoves shape(String text) {
        ShapeMoves x = new ShapeMoves();
        if (read(x, text) < 0) {
            throw new IllegalStateException("no set-up: " + text);
        }
        return x;
    }
}
