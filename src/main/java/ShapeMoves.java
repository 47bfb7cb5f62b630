/**
 * Marked points on a lattice and the moves of a cube that keep them.
 *
 * No call makes an object: whatever a call needs for its work stands in rows that the
 * constructor makes, because all calls of a run share one room.
 */
public final class ShapeMoves {
    public static final int NONE = -1, BAD = -2, STATE = -3, FULL = -4;
    public static final long NO = Long.MIN_VALUE;

    private static final int NO_SUCH = -5;
    private static final int NOT_TOLD = -9;
    private static final int NO_VALUE = -1000;
    private static final int FAULT_BASE = -10;
    private static final int ENDED_BASE = 100;
    private static final int NOTHING = -11, CAST = -12, PLACE = -13, SIZE = -14;

    private static final int FARTHEST = 3;
    private static final int MARKS = 5;
    private static final int CENTRAL_MOVE = 7;
    private static final int TAPES = 6;

    private final Setup now = new Setup();
    private final Setup imaged = new Setup();
    private boolean isImaged = false;
    private final Group nowGroup = new Group();
    private boolean isGroupOld = true;
    private final Shape trial = new Shape();
    private final Group trialGroup = new Group();
    private final Text text = new Text();
    private final Tape[] tapes = new Tape[TAPES];

    public ShapeMoves() {
        for (int i = 0; i < TAPES; i++) {
            tapes[i] = new Tape();
        }
    }

    // ---- points

    public int point(int x, int y, int z, int mark) {
        if (!isPlace(x, y, z) || !isMark(mark)) {
            return BAD;
        }
        if (now.shape.pointAt(x, y, z) != NO_SUCH) {
            return STATE;
        }
        if (now.shape.size == Shape.MOST) {
            return FULL;
        }
        isGroupOld = true;
        return now.shape.add(x, y, z, mark);
    }

    public int mark(int point, int v) {
        if (!isPoint(point)) {
            return NONE;
        }
        if (!isMark(v)) {
            return BAD;
        }
        int old = now.shape.marks[point];
        now.shape.marks[point] = v;
        isGroupOld = true;
        return old;
    }

    public int drop(int point) {
        if (!isPoint(point)) {
            return NONE;
        }
        now.shape.remove(point);
        isGroupOld = true;
        return now.shape.size;
    }

    public int of(int point, int what) {
        if (!isPoint(point) || what < 0 || what > 4) {
            return NOT_TOLD;
        }
        if (what == 4) {
            return groupNow().orbits[point];
        }
        return what == 3 ? now.shape.marks[point] : now.shape.places[3 * point + what];
    }

    public int at(int x, int y, int z) {
        return isPlace(x, y, z) ? now.shape.pointAt(x, y, z) : BAD;
    }

    public int feed(int sign) {
        if (sign < 0 || sign > 127) {
            return BAD;
        }
        if (text.size == Text.MOST) {
            return FULL;
        }
        return text.add(sign);
    }

    public int read() {
        int fault = text.parse();
        text.size = 0;
        if (fault != Text.NO_FAULT) {
            return FAULT_BASE - fault;
        }
        int done = 0;
        for (int clause = 0; clause < text.clauses; clause++) {
            if (doClause(clause)) {
                done++;
            }
        }
        return done;
    }

    /** The calls that a clause stands for refuse just what a clause is refused for. */
    private boolean doClause(int clause) {
        int first = text.part(clause, 1);
        int second = text.part(clause, 2);
        switch (text.part(clause, 0)) {
            case 'p':
                return point(first, second, text.part(clause, 3), text.part(clause, 4)) >= 0;
            case 'm':
                return mark(first, second) >= 0;
            default:
                return drop(first) >= 0;
        }
    }

    // ---- moves

    public int product(int a, int b) {
        return Moves.isMove(a) && Moves.isMove(b) ? Moves.multiply(a, b) : NONE;
    }

    public int move(int move, int what) {
        if (!Moves.isMove(move) || what < 0 || what > 3) {
            return NONE;
        }
        switch (what) {
            case 0:
                return Moves.invert(move);
            case 1:
                return Moves.orderOf(move);
            case 2:
                return now.shape.isKeptBy(move) ? 1 : 0;
            default:
                return now.shape.movedBy(move);
        }
    }

    public int trace(int move, int what) {
        if (!Moves.isMove(move) || what < 0 || what > 1) {
            return NOT_TOLD;
        }
        return what == 0 ? Moves.traceOf(move) : Moves.turnOf(move);
    }

    public int takes(int move, int point) {
        return Moves.isMove(move) && isPoint(point) ? now.shape.pointBehind(move, point) : NONE;
    }

    public int told(int what) {
        if (what < 0 || what > 7) {
            return NONE;
        }
        Group group = groupNow();
        switch (what) {
            case 0:
                return now.shape.size;
            case 1:
                return group.size;
            case 2:
                return group.classes;
            case 3:
                return group.orbitsInAll;
            case 4:
                return group.isHanded() ? 1 : 0;
            case 5:
                return group.members[CENTRAL_MOVE] ? 1 : 0;
            case 6:
                return group.signsInAll();
            default:
                return nearest(group);
        }
    }

    private int nearest(Group group) {
        int best = NO_SUCH;
        int fewest = Shape.MOST + 1;
        for (int move = 0; move < Moves.ALL; move++) {
            if (!group.members[move]) {
                int moved = now.shape.movedBy(move);
                if (moved < fewest) {
                    fewest = moved;
                    best = move;
                }
            }
        }
        return best;
    }

    public int group(int k) {
        if (k < 0) {
            return NONE;
        }
        Group group = groupNow();
        return k < group.size ? group.byNumber[k] : NO_SUCH;
    }

    // ---- classes, motions, signs

    public int classOf(int move, int what) {
        if (!Moves.isMove(move) || what < 0 || what > 1) {
            return NONE;
        }
        Group group = groupNow();
        if (!group.members[move]) {
            return STATE;
        }
        return what == 0 ? group.classLeast[move] : group.sizeOfClass(move);
    }

    public int classAt(int k) {
        if (k < 0) {
            return NONE;
        }
        Group group = groupNow();
        return k < group.classes ? group.classList[k] : NO_SUCH;
    }

    public int motion(int motion, int move) {
        if (!isMotion(motion) || !Moves.isMove(move)) {
            return NO_VALUE;
        }
        Group group = groupNow();
        return group.members[move] ? group.motionOf(motion, move) : NO_VALUE;
    }

    public int sign(int k, int move) {
        if (k < 0 || !Moves.isMove(move)) {
            return 0;
        }
        Group group = groupNow();
        return group.members[move] && k < group.signsInAll() ? group.signOf(k, move) : 0;
    }

    public int has(int motion, int k) {
        if (!isMotion(motion) || k < 0) {
            return NO_VALUE;
        }
        Group group = groupNow();
        return k < group.signsInAll() ? group.timesOf(motion, k) : NO_VALUE;
    }

    public int active(int what) {
        if (what < 0 || what > 2) {
            return NONE;
        }
        Group group = groupNow();
        int bits = 0;
        for (int k = 0; k < group.signsInAll(); k++) {
            if (isActive(group, k, what)) {
                bits |= 1 << k;
            }
        }
        return bits;
    }

    private static boolean isActive(Group group, int k, int what) {
        boolean inShifts = group.timesOf(Group.SHIFTS, k) > 0;
        boolean inPairs = group.timesOf(Group.PAIRS, k) > 0;
        switch (what) {
            case 0:
                return inShifts;
            case 1:
                return inPairs;
            default:
                return !inShifts && !inPairs;
        }
    }

    // ---- seen, odds

    public int see(int move, boolean is) {
        if (move == -1) {
            return now.seen.empty();
        }
        if (!Moves.isMove(move)) {
            return NONE;
        }
        return now.seen.isFull() ? FULL : now.seen.add(move, is ? 1 : 0);
    }

    public int fits(int point, int what) {
        if (!isPoint(point) || what < 0 || what > 1) {
            return NONE;
        }
        int fitting = 0;
        int least = NO_SUCH;
        trial.become(now.shape);
        for (int v = MARKS - 1; v >= 0; v--) {
            trial.marks[point] = v;
            if (isAllAsSeen(trial)) {
                fitting++;
                least = v;
            }
        }
        return what == 0 ? fitting : least;
    }

    private boolean isAllAsSeen(Shape shape) {
        for (int row = 0; row < now.seen.size; row++) {
            boolean was = now.seen.second[row] == 1;
            if (shape.isKeptBy(now.seen.first[row]) != was) {
                return false;
            }
        }
        return true;
    }

    public long odds(int point, int n, int part) {
        if (!isPoint(point) || n < 0 || n > Moves.ALL || !isPart(part)) {
            return NO;
        }
        int likely = 0;
        trial.become(now.shape);
        for (int v = 0; v < MARKS; v++) {
            trial.marks[point] = v;
            if (trial.keepers() >= n) {
                likely++;
            }
        }
        return partOfFraction(likely, MARKS, part);
    }

    public long mean(int part) {
        if (!isPart(part)) {
            return NO;
        }
        Group group = groupNow();
        return partOfFraction(group.ordersTogether(), group.size, part);
    }

    /** Above and below are small, so that trying every divisor is cheap. */
    private static int partOfFraction(int above, int below, int part) {
        int wanted = part == 0 ? above : below;
        for (int divisor = below; divisor > 1; divisor--) {
            if (above % divisor == 0 && below % divisor == 0) {
                return wanted / divisor;
            }
        }
        return wanted;
    }

    // ---- events, books

    public int event(int what, int n) {
        if (what == -1) {
            return now.events.empty();
        }
        if (what < 0 || what > 3) {
            return NONE;
        }
        if (!isForEvent(what, n)) {
            return BAD;
        }
        return now.events.isFull() ? FULL : now.events.add(what, n);
    }

    private static boolean isForEvent(int what, int n) {
        switch (what) {
            case Shape.ONE_GOES:
                return n >= 0 && n < Shape.MOST;
            case Shape.ALL_TAKEN:
                return Moves.isMove(n);
            default:
                return isMark(n);
        }
    }

    public int after(int what) {
        if (what < 0 || what > 2) {
            return NONE;
        }
        trial.become(now.shape);
        for (int row = 0; row < now.events.size; row++) {
            trial.happen(now.events.first[row], now.events.second[row]);
        }
        trialGroup.find(trial);
        switch (what) {
            case 0:
                return trialGroup.size;
            case 1:
                return trialGroup.classes;
            default:
                return trialGroup.orbitsInAll;
        }
    }

    public int book(int move, int order) {
        if (move == -1) {
            return now.book.empty();
        }
        if (!Moves.isMove(move)) {
            return NONE;
        }
        if (order < 1 || order > Moves.HIGHEST_ORDER) {
            return BAD;
        }
        return now.book.isFull() ? FULL : now.book.add(move, order);
    }

    public int looked() {
        Group group = groupNow();
        for (int row = 0; row < now.book.size; row++) {
            int move = now.book.first[row];
            if (!group.members[move] || Moves.orderOf(move) != now.book.second[row]) {
                return row;
            }
        }
        return NO_SUCH;
    }

    // ---- judging, the image, tapes

    public int judge(int tape, int i) {
        if (!isTape(tape)) {
            return NONE;
        }
        Tape row = tapes[tape];
        if (row.sort != Tape.EMPTY && row.sort != Tape.BYTES) {
            return CAST;
        }
        Group group = groupNow();
        for (int k = 0; k < group.size; k++) {
            // the place itself is tested first, so that i + k can't wrap around
            if (!row.hasPlace(i) || !row.hasPlace(i + k)) {
                return ENDED_BASE + k;
            }
            if (row.items[i + k] != group.byNumber[k]) {
                return k;
            }
        }
        return NO_SUCH;
    }

    public int image() {
        imaged.become(now);
        isImaged = true;
        return now.shape.size;
    }

    public int undo() {
        if (!isImaged) {
            return STATE;
        }
        now.become(imaged);
        isGroupOld = true;
        return now.shape.size;
    }

    public int count(int what) {
        switch (what) {
            case 0:
                return now.seen.size;
            case 1:
                return now.events.size;
            case 2:
                return now.book.size;
            case 3:
                return text.size;
            default:
                return BAD;
        }
    }

    public int tape(int tape, int sort, int n) {
        if (!isTape(tape)) {
            return NONE;
        }
        if (sort == Tape.EMPTY) {
            tapes[tape].become(Tape.EMPTY, 0);
            return 1;
        }
        if (sort < Tape.BYTES || sort > Tape.BOOLEANS || n > Tape.MOST) {
            return BAD;
        }
        if (n < 0) {
            return SIZE;
        }
        tapes[tape].become(sort, n);
        return 1;
    }

    public int item(int tape, int i, long v) {
        if (!isTape(tape)) {
            return NONE;
        }
        Tape row = tapes[tape];
        if (row.sort == Tape.EMPTY) {
            return NOTHING;
        }
        if (!row.hasPlace(i)) {
            return PLACE;
        }
        row.items[i] = row.asItem(v);
        return 1;
    }

    public long peek(int tape, int i) {
        return isTape(tape) && tapes[tape].hasPlace(i) ? tapes[tape].items[i] : NO;
    }

    public int shift(int tape, int i, int other, int j, int n) {
        if (!isTape(tape) || !isTape(other)) {
            return NONE;
        }
        Tape from = tapes[tape];
        Tape to = tapes[other];
        if (from.sort == Tape.EMPTY || to.sort == Tape.EMPTY) {
            return NOTHING;
        }
        if (from.sort != to.sort) {
            return CAST;
        }
        if (!from.hasRun(i, n) || !to.hasRun(j, n)) {
            return PLACE;
        }
        System.arraycopy(from.items, i, to.items, j, n);
        return n;
    }

    // ---- what the calls share

    private Group groupNow() {
        if (isGroupOld) {
            nowGroup.find(now.shape);
            isGroupOld = false;
        }
        return nowGroup;
    }

    private boolean isPoint(int point) {
        return point >= 0 && point < now.shape.size;
    }

    private static boolean isPlace(int x, int y, int z) {
        return isAxis(x) && isAxis(y) && isAxis(z);
    }

    private static boolean isAxis(int value) {
        return value >= -FARTHEST && value <= FARTHEST;
    }

    private static boolean isMark(int v) {
        return v >= 0 && v < MARKS;
    }

    private static boolean isMotion(int motion) {
        return motion >= 0 && motion <= Group.PAIRS;
    }

    private static boolean isPart(int part) {
        return part == 0 || part == 1;
    }

    private static boolean isTape(int tape) {
        return tape >= 0 && tape < TAPES;
    }

    /** The MOVES as such, whatever the SHAPE; every move told here is one of 0 .. 47. */
    private static final class Moves {
        static final int ALL = 48;
        static final int HIGHEST_ORDER = 6;

        /** At 3 times the WAY and i: the axis of the old place that stands at i. */
        private static final int[] WAYS = {0, 1, 2, 0, 2, 1, 1, 0, 2, 1, 2, 0, 2, 0, 1, 2, 1, 0};
        private static final int[] TURN_OF_WAY = {1, -1, -1, 1, 1, -1};
        /** The WAY that undoes each: 3 and 4 undo one another, the others themselves. */
        private static final int[] WAY_BACK = {0, 1, 2, 4, 3, 5};

        static boolean isMove(int move) {
            return move >= 0 && move < ALL;
        }

        static int axisAt(int move, int i) {
            return WAYS[3 * (move / 8) + i];
        }

        static int signBit(int move, int i) {
            return (move >> i) & 1;
        }

        static int multiply(int a, int b) {
            int signs = 0;
            for (int i = 0; i < 3; i++) {
                signs |= (signBit(a, i) ^ signBit(b, axisAt(a, i))) << i;
            }
            int first = axisAt(b, axisAt(a, 0));
            int second = axisAt(b, axisAt(a, 1));
            int third = axisAt(b, axisAt(a, 2));
            // WAYS stand by their first axes, and of two with the same one by their second
            int way = 2 * first + (second > third ? 1 : 0);
            return 8 * way + signs;
        }

        static int invert(int move) {
            int signs = 0;
            for (int i = 0; i < 3; i++) {
                signs |= signBit(move, i) << axisAt(move, i);
            }
            return 8 * WAY_BACK[move / 8] + signs;
        }

        static int orderOf(int move) {
            int order = 1;
            for (int power = move; power != 0 && order < HIGHEST_ORDER; order++) {
                power = multiply(move, power);
            }
            return order;
        }

        static int traceOf(int move) {
            int together = 0;
            for (int i = 0; i < 3; i++) {
                if (axisAt(move, i) == i) {
                    together += 1 - 2 * signBit(move, i);
                }
            }
            return together;
        }

        static int turnOf(int move) {
            int turn = TURN_OF_WAY[move / 8];
            return Integer.bitCount(move % 8) % 2 == 0 ? turn : -turn;
        }
    }

    /** POINTS. */
    private static final class Shape {
        static final int MOST = 8;
        static final int ONE_GOES = 0, MARK_GOES = 1, ALL_TAKEN = 2;

        /** X, Y, Z of one point behind those of the other. */
        private final int[] places = new int[3 * MOST];
        private final int[] marks = new int[MOST];
        private int size = 0;

        void become(Shape other) {
            System.arraycopy(other.places, 0, places, 0, 3 * MOST);
            System.arraycopy(other.marks, 0, marks, 0, MOST);
            size = other.size;
        }

        /** Only while there are fewer than 8. */
        int add(int x, int y, int z, int mark) {
            int point = size;
            setPlace(point, x, y, z);
            marks[point] = mark;
            size++;
            return point;
        }

        private void setPlace(int point, int x, int y, int z) {
            places[3 * point] = x;
            places[3 * point + 1] = y;
            places[3 * point + 2] = z;
        }

        void remove(int point) {
            int behind = size - point - 1;
            System.arraycopy(places, 3 * point + 3, places, 3 * point, 3 * behind);
            System.arraycopy(marks, point + 1, marks, point, behind);
            size--;
        }

        int pointAt(int x, int y, int z) {
            for (int point = 0; point < size; point++) {
                int from = 3 * point;
                if (places[from] == x && places[from + 1] == y && places[from + 2] == z) {
                    return point;
                }
            }
            return NO_SUCH;
        }

        private int axisBehind(int move, int point, int i) {
            int old = places[3 * point + Moves.axisAt(move, i)];
            return Moves.signBit(move, i) == 0 ? old : -old;
        }

        /** The point that stands where the move takes the point's place. */
        int pointBehind(int move, int point) {
            return pointAt(axisBehind(move, point, 0), axisBehind(move, point, 1),
                    axisBehind(move, point, 2));
        }

        private boolean isMovedBy(int move, int point) {
            int behind = pointBehind(move, point);
            return behind == NO_SUCH || marks[behind] != marks[point];
        }

        int movedBy(int move) {
            int moved = 0;
            for (int point = 0; point < size; point++) {
                if (isMovedBy(move, point)) {
                    moved++;
                }
            }
            return moved;
        }

        boolean isKeptBy(int move) {
            for (int point = 0; point < size; point++) {
                if (isMovedBy(move, point)) {
                    return false;
                }
            }
            return true;
        }

        int keepers() {
            int keepers = 0;
            for (int move = 0; move < Moves.ALL; move++) {
                if (isKeptBy(move)) {
                    keepers++;
                }
            }
            return keepers;
        }

        void happen(int what, int n) {
            switch (what) {
                case ONE_GOES:
                    if (n < size) {
                        remove(n);
                    }
                    break;
                case MARK_GOES:
                    replaceMark(n);
                    break;
                case ALL_TAKEN:
                    takeBy(n);
                    break;
                default:
                    markAll(n);
                    break;
            }
        }

        private void replaceMark(int old) {
            for (int point = 0; point < size; point++) {
                if (marks[point] == old) {
                    marks[point] = 0;
                }
            }
        }

        private void takeBy(int move) {
            for (int point = 0; point < size; point++) {
                setPlace(point, axisBehind(move, point, 0), axisBehind(move, point, 1),
                        axisBehind(move, point, 2));
            }
        }

        private void markAll(int mark) {
            for (int point = 0; point < size; point++) {
                marks[point] = mark;
            }
        }
    }

    /** THE GROUP of a shape, with its CLASSES, ORBITS, MOTIONS and SIGNS. */
    private static final class Group {
        static final int POINTS = 0, ALL = 1, SHIFTS = 2, TURNS = 3, INNER = 4, PAIRS = 5;
        private static final int OUTSIDE = -1;

        private final boolean[] members = new boolean[Moves.ALL];
        private final int[] byNumber = new int[Moves.ALL];
        private int size = 0;
        private final int[] stay = new int[Moves.ALL];
        private final int[] orbits = new int[Shape.MOST];
        private int orbitsInAll = 0;
        private final int[] classLeast = new int[Moves.ALL];
        private final int[] classList = new int[Moves.ALL];
        private int classes = 0;
        private final int[] parts = new int[Moves.ALL];
        private final int[] reached = new int[Moves.ALL];
        private int reachedInAll = 0;
        private int signs = 0;

        void find(Shape shape) {
            size = 0;
            for (int move = 0; move < Moves.ALL; move++) {
                members[move] = shape.isKeptBy(move);
                if (members[move]) {
                    byNumber[size] = move;
                    size++;
                }
            }
            findOrbits(shape);
            findClasses();
            signs = 0;
        }

        private void findOrbits(Shape shape) {
            for (int k = 0; k < size; k++) {
                stay[byNumber[k]] = 0;
            }
            orbitsInAll = 0;
            for (int point = 0; point < shape.size; point++) {
                findOrbit(shape, point);
                if (orbits[point] == point) {
                    orbitsInAll++;
                }
            }
        }

        private void findOrbit(Shape shape, int point) {
            orbits[point] = point;
            for (int k = 0; k < size; k++) {
                int behind = shape.pointBehind(byNumber[k], point);
                orbits[point] = Math.min(orbits[point], behind);
                if (behind == point) {
                    stay[byNumber[k]]++;
                }
            }
        }

        private void findClasses() {
            for (int k = 0; k < size; k++) {
                classLeast[byNumber[k]] = OUTSIDE;
            }
            classes = 0;
            for (int k = 0; k < size; k++) {
                int move = byNumber[k];
                if (classLeast[move] == OUTSIDE) {
                    findClass(move);
                    classList[classes] = move;
                    classes++;
                }
            }
        }

        private void findClass(int least) {
            for (int k = 0; k < size; k++) {
                int h = byNumber[k];
                int like = Moves.multiply(Moves.multiply(h, least), Moves.invert(h));
                classLeast[like] = least;
            }
        }

        int sizeOfClass(int move) {
            int alike = 0;
            for (int k = 0; k < size; k++) {
                if (classLeast[byNumber[k]] == classLeast[move]) {
                    alike++;
                }
            }
            return alike;
        }

        boolean isHanded() {
            for (int k = 0; k < size; k++) {
                if (Moves.turnOf(byNumber[k]) == -1) {
                    return false;
                }
            }
            return true;
        }

        int ordersTogether() {
            int together = 0;
            for (int k = 0; k < size; k++) {
                together += Moves.orderOf(byNumber[k]);
            }
            return together;
        }

        int motionOf(int motion, int move) {
            int trace = Moves.traceOf(move);
            int turns = Moves.turnOf(move) * trace;
            switch (motion) {
                case POINTS:
                    return stay[move];
                case ALL:
                    return stay[move] * trace;
                case SHIFTS:
                    return trace;
                case TURNS:
                    return turns;
                case INNER:
                    return stay[move] * trace - trace - turns;
                default:
                    return (trace * trace + Moves.traceOf(Moves.multiply(move, move))) / 2;
            }
        }

        int timesOf(int motion, int k) {
            int together = 0;
            for (int i = 0; i < size; i++) {
                together += motionOf(motion, byNumber[i]) * signOf(k, byNumber[i]);
            }
            return size == 0 ? 0 : together / size;
        }

        /** Signs are found when first asked for: most calls do without them. */
        int signsInAll() {
            if (signs == 0) {
                findSigns();
            }
            return signs;
        }

        /** Only for k below signsInAll(), which has found the parts. */
        int signOf(int k, int move) {
            return Integer.bitCount(k & parts[move]) % 2 == 0 ? 1 : -1;
        }

        /**
         * A sign is 1 on all that squares make, and free on each least member that isn't made
         * of those and the free ones ahead of it. The first free one has the highest bit of
         * the sign's number, so that signs which have 1 there come first.
         */
        private void findSigns() {
            signs = 1;
            findMadeOfSquares();
            for (int k = 0; k < size; k++) {
                if (parts[byNumber[k]] == OUTSIDE) {
                    addFree(byNumber[k]);
                    signs *= 2;
                }
            }
        }

        private void findMadeOfSquares() {
            for (int move = 0; move < Moves.ALL; move++) {
                parts[move] = OUTSIDE;
            }
            reachedInAll = 0;
            reach(0, 0);
            for (int i = 0; i < Moves.ALL && i < reachedInAll; i++) {
                for (int k = 0; k < size; k++) {
                    int square = Moves.multiply(byNumber[k], byNumber[k]);
                    reach(Moves.multiply(reached[i], square), 0);
                }
            }
        }

        private void reach(int move, int part) {
            if (parts[move] == OUTSIDE && reachedInAll < Moves.ALL) {
                parts[move] = part;
                reached[reachedInAll] = move;
                reachedInAll++;
            }
        }

        private void addFree(int free) {
            int before = reachedInAll;
            for (int i = 0; i < before; i++) {
                int old = reached[i];
                parts[old] *= 2;
                reach(Moves.multiply(free, old), parts[old] + 1);
            }
        }
    }

    /** Rows of two numbers told by hand. */
    private static final class Rows {
        private final int[] first;
        private final int[] second;
        private int size = 0;

        Rows(int most) {
            first = new int[most];
            second = new int[most];
        }

        boolean isFull() {
            return size == first.length;
        }

        /** Only while they aren't full. */
        int add(int a, int b) {
            first[size] = a;
            second[size] = b;
            size++;
            return size;
        }

        int empty() {
            size = 0;
            return 0;
        }

        /** Only for rows with the same limit. */
        void become(Rows other) {
            System.arraycopy(other.first, 0, first, 0, other.size);
            System.arraycopy(other.second, 0, second, 0, other.size);
            size = other.size;
        }
    }

    /** All that THE IMAGE holds. */
    private static final class Setup {
        private static final int MOST_SEEN = 5, MOST_EVENTS = 8, MOST_BOOK = 8;

        private final Shape shape = new Shape();
        private final Rows seen = new Rows(MOST_SEEN);
        private final Rows events = new Rows(MOST_EVENTS);
        private final Rows book = new Rows(MOST_BOOK);

        void become(Setup other) {
            shape.become(other.shape);
            seen.become(other.seen);
            events.become(other.events);
            book.become(other.book);
        }
    }

    /** THE TEXT, and the clauses that it was last read as. */
    private static final class Text {
        static final int MOST = 100;
        static final int NO_FAULT = -1;
        private static final int MOST_CLAUSES = 12;
        private static final int PARTS = 5;

        private final byte[] signs = new byte[MOST];
        private int size = 0;
        private int place = 0;
        private final int[] parts = new int[PARTS * MOST_CLAUSES];
        private int clauses = 0;

        /** Only while there are fewer than 100. */
        int add(int sign) {
            signs[size] = (byte) sign;
            size++;
            return size;
        }

        /** Part 0 of a clause is its letter; its numbers follow as they stand. */
        int part(int clause, int i) {
            return parts[PARTS * clause + i];
        }

        /** The FAULT, or NO_FAULT. */
        int parse() {
            place = 0;
            clauses = 0;
            for (int k = 0; k < MOST_CLAUSES; k++) {
                if (k > 0 && !takeSign(';')) {
                    return place;
                }
                if (!takeClause(PARTS * k)) {
                    return place;
                }
                clauses++;
                if (place == size) {
                    return NO_FAULT;
                }
            }
            return place;
        }

        private boolean takeClause(int from) {
            if (takeSign('p')) {
                parts[from] = 'p';
                return takeAxis(from + 1) && takeAxis(from + 2) && takeAxis(from + 3)
                        && takeDigit(from + 4);
            }
            if (takeSign('m')) {
                parts[from] = 'm';
                return takeDigit(from + 1) && takeDigit(from + 2);
            }
            parts[from] = 'd';
            return takeSign('d') && takeDigit(from + 1);
        }

        private boolean takeAxis(int to) {
            boolean isBelow = takeSign('-');
            if (!takeDigit(to)) {
                return false;
            }
            if (isBelow) {
                parts[to] = -parts[to];
            }
            return takeSign(',');
        }

        private boolean takeDigit(int to) {
            if (place >= size || signs[place] < '0' || signs[place] > '9') {
                return false;
            }
            parts[to] = signs[place] - '0';
            place++;
            return true;
        }

        private boolean takeSign(char sign) {
            if (place >= size || signs[place] != sign) {
                return false;
            }
            place++;
            return true;
        }
    }

    /** One of TAPES; its items stand as longs, cut to what its sort can hold. */
    private static final class Tape {
        static final int EMPTY = -1, BYTES = 0, SHORTS = 1, INTS = 2, LONGS = 3, BOOLEANS = 4;
        static final int MOST = 60;

        private final long[] items = new long[MOST];
        private int sort = EMPTY;
        private int size = 0;

        void become(int newSort, int n) {
            sort = newSort;
            size = n;
            for (int i = 0; i < MOST; i++) {
                items[i] = 0;
            }
        }

        boolean hasPlace(int i) {
            return i >= 0 && i < size;
        }

        boolean hasRun(int i, int n) {
            return n >= 0 && n <= size && i >= 0 && i <= size - n;
        }

        long asItem(long v) {
            switch (sort) {
                case BYTES:
                    return (byte) v;
                case SHORTS:
                    return (short) v;
                case INTS:
                    return (int) v;
                case LONGS:
                    return v;
                default:
                    return v != 0 ? 1 : 0;
            }
        }
    }
}
