import java.util.Random;

/**
 * All promises: long runs of calls with ordinary, edge and wrong arguments, each answer beside
 * that of PlainModel. The seeds are fixed, so that every run of this test is the same.
 */
public final class RandomRunsTest {
    private static final int RUNS = 200;
    private static final int CALLS = 512;
    private static final Due due = new Due("RandomRunsTest");

    private final Random random;
    private final ShapeMoves x = new ShapeMoves();
    private final PlainModel model = new PlainModel();
    private final int[] arguments = new int[5];
    private long item;
    private final boolean isCrowded;

    private RandomRunsTest(int seed) {
        random = new Random(seed);
        isCrowded = seed % 2 == 0;
    }

    public static void main(String[] args) {
        for (int seed = 0; seed < RUNS; seed++) {
            due.promise("run with seed " + seed);
            new RandomRunsTest(seed).run();
        }
        due.end();
    }

    private void run() {
        int call = 0;
        while (call < CALLS) {
            int which = random.nextInt(44);
            // points come more often than they go, and an image comes back now and then only
            if ((which == 2 || which == 29) && random.nextInt(3) > 0) {
                which = 0;
            }
            if (which >= 40) {
                call += feedText(CALLS - call);
            } else if (which >= 36) {
                call += feedGroup(CALLS - call);
            } else {
                choose(which);
                long want = told(which, true);
                due.is("call " + which + " " + java.util.Arrays.toString(arguments), told(which, false), want);
                call++;
            }
        }
    }

    /** Mostly least .. most, now and then just outside, seldom far outside. */
    private int near(int least, int most) {
        int kind = random.nextInt(40);
        if (kind == 0) {
            return least - 1;
        }
        if (kind == 1) {
            return most + 1;
        }
        if (kind == 2) {
            int[] far = {Integer.MIN_VALUE, Integer.MAX_VALUE, -100, 256, most + 1 << 8};
            return far[random.nextInt(far.length)];
        }
        return least + random.nextInt(most - least + 1);
    }

    private int coordinate() {
        return isCrowded && random.nextInt(8) > 0 ? random.nextInt(3) - 1 : near(-3, 3);
    }

    private int mark() {
        return isCrowded && random.nextInt(8) > 0 ? random.nextInt(2) : near(0, 4);
    }

    private int point() {
        return near(0, Math.max(0, model.told(0) - 1));
    }

    /** A move, half of them from the group. */
    private int move() {
        int size = model.told(1);
        return random.nextBoolean() ? model.group(random.nextInt(size)) : near(0, 47);
    }

    private void set(int... values) {
        java.util.Arrays.fill(arguments, 0);
        System.arraycopy(values, 0, arguments, 0, values.length);
    }

    private void choose(int which) {
        item = random.nextInt(3) == 0 ? random.nextLong() : near(0, 47);
        int[][] choices = {
            {coordinate(), coordinate(), coordinate(), mark()},
            {point(), mark()},
            {point()},
            {point(), near(0, 4)},
            {coordinate(), coordinate(), coordinate()},
            {near(0, 127)},
            {},
            {near(0, 47), near(0, 47)},
            {move(), near(0, 3)},
            {near(0, 47), near(0, 1)},
            {move(), point()},
            {near(0, 7)},
            {near(0, model.told(1))},
            {move(), near(0, 1)},
            {near(0, model.told(2))},
            {near(0, 5), move()},
            {near(0, model.told(6)), move()},
            {near(0, 5), near(0, model.told(6) - 1)},
            {near(0, 2)},
            {random.nextInt(9) == 0 ? -1 : move(), random.nextInt(2)},
            {point(), near(0, 1)},
            {point(), near(0, random.nextBoolean() ? 48 : 9), near(0, 1)},
            {near(0, 1)},
            {random.nextInt(9) == 0 ? -1 : near(0, 3), near(0, random.nextInt(3) == 0 ? 47 : 4)},
            {near(0, 2)},
            bookRow(),
            {},
            {near(0, 5), near(0, random.nextBoolean() ? 0 : 60)},
            {},
            {},
            {near(0, 3)},
            {near(0, 5), near(-1, 4), near(0, 60)},
            {near(0, 5), near(0, 20)},
            {near(0, 5), near(0, 20)},
            {near(0, 5), near(0, 20), near(0, 5), near(0, 20), near(0, 20)},
            {near(0, 1), near(0, 5), near(0, 1), near(0, 5), near(0, 9)}};
        set(choices[which]);
    }

    /** Half of the rows are as the group is. */
    private int[] bookRow() {
        int move = random.nextInt(9) == 0 ? -1 : move();
        int order = model.move(move, 1);
        return new int[] {move, random.nextBoolean() && order > 0 ? order : near(1, 6)};
    }

    /** A row of bytes with the group, now and then with one thing otherwise, is judged. */
    private int feedGroup(int left) {
        int size = model.told(1);
        int from = random.nextInt(4);
        int tape = random.nextInt(6);
        if (left < size + 3) {
            return left;
        }
        int length = from + size - (random.nextInt(3) == 0 ? 1 : 0);
        set(tape, 0, length);
        due.is("tape", told(31, false), told(31, true));
        int other = random.nextInt(2 * size);
        for (int k = 0; k < size; k++) {
            set(tape, from + k);
            item = model.group(k) + (k == other ? 1 : 0);
            due.is("item", told(32, false), told(32, true));
        }
        set(tape, from);
        due.is("judge", told(27, false), told(27, true));
        return size + 2;
    }

    private int feedText(int left) {
        StringBuilder text = new StringBuilder();
        int clauses = random.nextInt(6) == 0 ? 11 + random.nextInt(3) : 1 + random.nextInt(4);
        for (int k = 0; k < clauses; k++) {
            text.append(k > 0 ? ";" : "").append(clause(clauses > 4));
        }
        if (random.nextInt(3) == 0) {
            spoil(text);
        }
        int length = Math.min(text.length(), left - 1);
        for (int i = 0; i < length; i++) {
            set(text.charAt(i));
            due.is("feed", told(5, false), told(5, true));
        }
        set();
        due.is("read of " + text, told(6, false), told(6, true));
        return length + 1;
    }

    private String clause(boolean isShort) {
        int kind = random.nextInt(isShort ? 9 : 6);
        if (kind == 0) {
            return "d" + random.nextInt(isShort ? 10 : 5);
        }
        if (kind <= 2 || isShort && kind < 8) {
            return "m" + random.nextInt(10) + random.nextInt(6);
        }
        String places = "";
        for (int i = 0; i < 3; i++) {
            places += (random.nextInt(3) == 0 ? "-" : "") + random.nextInt(random.nextInt(5) == 0 ? 10 : 3) + ",";
        }
        return "p" + places + random.nextInt(random.nextInt(5) == 0 ? 10 : 3);
    }

    private void spoil(StringBuilder text) {
        String signs = "pmd-,;0123456789x :/";
        char sign = signs.charAt(random.nextInt(signs.length()));
        int place = random.nextInt(text.length() + 1);
        switch (random.nextInt(3)) {
            case 0:
                text.insert(place, sign);
                break;
            case 1:
                text.setLength(place);
                break;
            default:
                text.setCharAt(Math.min(place, text.length() - 1), sign);
                break;
        }
    }

    /** What the call numbered so answers, of the model or of ShapeMoves. */
    private long told(int which, boolean isModel) {
        int a = arguments[0];
        int b = arguments[1];
        int c = arguments[2];
        int d = arguments[3];
        int e = arguments[4];
        switch (which) {
            case 0: return isModel ? model.point(a, b, c, d) : x.point(a, b, c, d);
            case 1: return isModel ? model.mark(a, b) : x.mark(a, b);
            case 2: return isModel ? model.drop(a) : x.drop(a);
            case 3: return isModel ? model.of(a, b) : x.of(a, b);
            case 4: return isModel ? model.at(a, b, c) : x.at(a, b, c);
            case 5: return isModel ? model.feed(a) : x.feed(a);
            case 6: return isModel ? model.read() : x.read();
            case 7: return isModel ? model.product(a, b) : x.product(a, b);
            case 8: return isModel ? model.move(a, b) : x.move(a, b);
            case 9: return isModel ? model.trace(a, b) : x.trace(a, b);
            case 10: return isModel ? model.takes(a, b) : x.takes(a, b);
            case 11: return isModel ? model.told(a) : x.told(a);
            case 12: return isModel ? model.group(a) : x.group(a);
            case 13: return isModel ? model.classOf(a, b) : x.classOf(a, b);
            case 14: return isModel ? model.classAt(a) : x.classAt(a);
            case 15: return isModel ? model.motion(a, b) : x.motion(a, b);
            case 16: return isModel ? model.sign(a, b) : x.sign(a, b);
            case 17: return isModel ? model.has(a, b) : x.has(a, b);
            case 18: return isModel ? model.active(a) : x.active(a);
            case 19: return isModel ? model.see(a, b == 1) : x.see(a, b == 1);
            case 20: return isModel ? model.fits(a, b) : x.fits(a, b);
            case 21: return isModel ? model.odds(a, b, c) : x.odds(a, b, c);
            case 22: return isModel ? model.mean(a) : x.mean(a);
            case 23: return isModel ? model.event(a, b) : x.event(a, b);
            case 24: return isModel ? model.after(a) : x.after(a);
            case 25: return isModel ? model.book(a, b) : x.book(a, b);
            case 26: return isModel ? model.looked() : x.looked();
            case 27: return isModel ? model.judge(a, b) : x.judge(a, b);
            case 28: return isModel ? model.image() : x.image();
            case 29: return isModel ? model.undo() : x.undo();
            case 30: return isModel ? model.count(a) : x.count(a);
            case 31: return isModel ? model.tape(a, b, c) : x.tape(a, b, c);
            case 32: return isModel ? model.item(a, b, item) : x.item(a, b, item);
            case 33: return isModel ? model.peek(a, b) : x.peek(a, b);
            default: return isModel ? model.shift(a, b, c, d, e) : x.shift(a, b, c, d, e);
        }
    }
}
