import java.util.ArrayList;
import java.util.HashMap;
import java.util.List;
import java.util.Map;
import java.util.TreeMap;
import java.util.TreeSet;
import java.util.regex.Matcher;
import java.util.regex.Pattern;

/**
 * The document said once more, in another way: points as a list, moves as matrices, signs found
 * by trying, faults found by a regular expression. It answers each call as ShapeMoves shall.
 */
final class PlainModel {
    private static final int[][] WAYS = {
        {0, 1, 2}, {0, 2, 1}, {1, 0, 2}, {1, 2, 0}, {2, 0, 1}, {2, 1, 0}};
    private static final int[][][] MATRICES = new int[48][][];

    static {
        for (int move = 0; move < 48; move++) {
            int[][] m = new int[3][3];
            for (int i = 0; i < 3; i++) {
                m[i][WAYS[move / 8][i]] = (move & (1 << i)) != 0 ? -1 : 1;
            }
            MATRICES[move] = m;
        }
    }

    /** A point: x, y, z, mark. */
    private List<int[]> points = new ArrayList<>();
    private List<int[]> seen = new ArrayList<>();
    private List<int[]> events = new ArrayList<>();
    private List<int[]> book = new ArrayList<>();
    private List<List<int[]>> image = null;
    private String text = "";
    private final Object[] tapes = new Object[6];

    // ---- moves as matrices

    static int[] takePlace(int move, int[] place) {
        int[] behind = new int[3];
        for (int i = 0; i < 3; i++) {
            for (int j = 0; j < 3; j++) {
                behind[i] += MATRICES[move][i][j] * place[j];
            }
        }
        return behind;
    }

    static boolean isSame(int[] a, int[] b) {
        return a[0] == b[0] && a[1] == b[1] && a[2] == b[2];
    }

    static int multiply(int a, int b) {
        int[][] m = new int[3][3];
        for (int i = 0; i < 3; i++) {
            for (int j = 0; j < 3; j++) {
                for (int k = 0; k < 3; k++) {
                    m[i][j] += MATRICES[a][i][k] * MATRICES[b][k][j];
                }
            }
        }
        for (int move = 0; move < 48; move++) {
            if (java.util.Arrays.deepEquals(m, MATRICES[move])) {
                return move;
            }
        }
        throw new IllegalStateException("no such move");
    }

    static int traceOf(int move) {
        int[][] m = MATRICES[move];
        return m[0][0] + m[1][1] + m[2][2];
    }

    static int turnOf(int move) {
        int[][] m = MATRICES[move];
        return m[0][0] * (m[1][1] * m[2][2] - m[1][2] * m[2][1])
                - m[0][1] * (m[1][0] * m[2][2] - m[1][2] * m[2][0])
                + m[0][2] * (m[1][0] * m[2][1] - m[1][1] * m[2][0]);
    }

    private static final int[][] PRODUCTS = new int[48][48];

    static {
        for (int a = 0; a < 48; a++) {
            for (int b = 0; b < 48; b++) {
                PRODUCTS[a][b] = multiply(a, b);
            }
        }
    }

    private static int inverse(int move) {
        for (int other = 0; other < 48; other++) {
            if (PRODUCTS[move][other] == 0) {
                return other;
            }
        }
        throw new IllegalStateException("no inverse");
    }

    private static int order(int move) {
        int power = move;
        int order = 1;
        while (power != 0) {
            power = PRODUCTS[power][move];
            order++;
        }
        return order;
    }

    // ---- a shape

    private static int find(List<int[]> shape, int[] place) {
        for (int i = 0; i < shape.size(); i++) {
            if (isSame(shape.get(i), place)) {
                return i;
            }
        }
        return -5;
    }

    private static int moved(List<int[]> shape, int move) {
        int moved = 0;
        for (int[] point : shape) {
            int behind = find(shape, takePlace(move, point));
            if (behind < 0 || shape.get(behind)[3] != point[3]) {
                moved++;
            }
        }
        return moved;
    }

    private static List<Integer> groupOf(List<int[]> shape) {
        List<Integer> group = new ArrayList<>();
        for (int move = 0; move < 48; move++) {
            if (moved(shape, move) == 0) {
                group.add(move);
            }
        }
        return group;
    }

    private static TreeMap<Integer, TreeSet<Integer>> classesOf(List<Integer> group) {
        TreeMap<Integer, TreeSet<Integer>> classes = new TreeMap<>();
        for (int g : group) {
            TreeSet<Integer> like = new TreeSet<>();
            for (int h : group) {
                like.add(PRODUCTS[PRODUCTS[h][g]][inverse(h)]);
            }
            classes.put(like.first(), like);
        }
        return classes;
    }

    private static int orbitOf(List<int[]> shape, List<Integer> group, int point) {
        TreeSet<Integer> orbit = new TreeSet<>();
        for (int g : group) {
            orbit.add(find(shape, takePlace(g, shape.get(point))));
        }
        return orbit.first();
    }

    private static int orbitsOf(List<int[]> shape, List<Integer> group) {
        TreeSet<Integer> least = new TreeSet<>();
        for (int i = 0; i < shape.size(); i++) {
            least.add(orbitOf(shape, group, i));
        }
        return least.size();
    }

    /** All signs, 1 tried ahead of -1 for each of the group by numbers: so they come in their order. */
    private static List<int[]> signsOf(List<Integer> group) {
        return KNOWN_SIGNS.computeIfAbsent(group, g -> {
            List<int[]> signs = new ArrayList<>();
            trySigns(g, new int[48], 0, signs);
            return signs;
        });
    }

    /** Trying takes long, and the same groups come again and again. */
    private static final Map<List<Integer>, List<int[]>> KNOWN_SIGNS = new HashMap<>();

    private static void trySigns(List<Integer> group, int[] sign, int known, List<int[]> signs) {
        if (known == group.size()) {
            signs.add(sign.clone());
            return;
        }
        for (int value = 1; value >= -1; value -= 2) {
            sign[group.get(known)] = value;
            if (isSignSoFar(group, sign)) {
                trySigns(group, sign, known + 1, signs);
            }
        }
        sign[group.get(known)] = 0;
    }

    private static boolean isSignSoFar(List<Integer> group, int[] sign) {
        for (int a : group) {
            for (int b : group) {
                int both = sign[PRODUCTS[a][b]];
                if (sign[a] != 0 && sign[b] != 0 && both != 0 && both != sign[a] * sign[b]) {
                    return false;
                }
            }
        }
        return true;
    }

    private static int motionOf(List<int[]> shape, int motion, int move) {
        int stay = 0;
        for (int[] point : shape) {
            if (isSame(takePlace(move, point), point)) {
                stay++;
            }
        }
        int trace = traceOf(move);
        int[] motions = {stay, stay * trace, trace, turnOf(move) * trace,
            stay * trace - trace - turnOf(move) * trace,
            (trace * trace + traceOf(PRODUCTS[move][move])) / 2};
        return motions[motion];
    }

    private int times(List<Integer> group, int motion, int[] sign) {
        int together = 0;
        for (int g : group) {
            together += motionOf(points, motion, g) * sign[g];
        }
        if (together % group.size() != 0) {
            throw new IllegalStateException("a rest");
        }
        return together / group.size();
    }

    private static List<int[]> copy(List<int[]> rows) {
        List<int[]> copy = new ArrayList<>();
        for (int[] row : rows) {
            copy.add(row.clone());
        }
        return copy;
    }

    private static boolean in(long v, long least, long most) {
        return v >= least && v <= most;
    }

    private boolean isPoint(int point) {
        return in(point, 0, points.size() - 1);
    }

    private static boolean isMove(int move) {
        return in(move, 0, 47);
    }

    // ---- points

    int point(int x, int y, int z, int mark) {
        if (!in(x, -3, 3) || !in(y, -3, 3) || !in(z, -3, 3) || !in(mark, 0, 4)) {
            return -2;
        }
        if (find(points, new int[] {x, y, z}) >= 0) {
            return -3;
        }
        if (points.size() == 8) {
            return -4;
        }
        points.add(new int[] {x, y, z, mark});
        return points.size() - 1;
    }

    int mark(int point, int v) {
        if (!isPoint(point)) {
            return -1;
        }
        if (!in(v, 0, 4)) {
            return -2;
        }
        int old = points.get(point)[3];
        points.get(point)[3] = v;
        return old;
    }

    int drop(int point) {
        if (!isPoint(point)) {
            return -1;
        }
        points.remove(point);
        return points.size();
    }

    int of(int point, int what) {
        if (!isPoint(point) || !in(what, 0, 4)) {
            return -9;
        }
        return what < 4 ? points.get(point)[what] : orbitOf(points, groupOf(points), point);
    }

    int at(int x, int y, int z) {
        if (!in(x, -3, 3) || !in(y, -3, 3) || !in(z, -3, 3)) {
            return -2;
        }
        return find(points, new int[] {x, y, z});
    }

    int feed(int sign) {
        if (!in(sign, 0, 127)) {
            return -2;
        }
        if (text.length() == 100) {
            return -4;
        }
        text += (char) sign;
        return text.length();
    }

    private static final String CLAUSE = "(?:p-?[0-9],-?[0-9],-?[0-9],[0-9]|m[0-9][0-9]|d[0-9])";
    private static final Pattern SET_UP = Pattern.compile(CLAUSE + "(?:;" + CLAUSE + "){0,11}");

    /** The longest beginning of the text that a set-up could begin with tells the fault. */
    private static int faultOf(String text) {
        if (SET_UP.matcher(text).matches()) {
            return -1;
        }
        for (int length = 1; length <= text.length(); length++) {
            Matcher matcher = SET_UP.matcher(text.substring(0, length));
            if (!matcher.matches() && !matcher.hitEnd()) {
                return length - 1;
            }
        }
        return text.length();
    }

    int read() {
        String whole = text;
        text = "";
        int fault = faultOf(whole);
        if (fault >= 0) {
            return -10 - fault;
        }
        int done = 0;
        for (String clause : whole.split(";")) {
            String[] n = clause.substring(1).split(clause.charAt(0) == 'p' ? "," : "");
            int first = Integer.parseInt(n[0]);
            int answer;
            if (clause.charAt(0) == 'p') {
                answer = point(first, Integer.parseInt(n[1]), Integer.parseInt(n[2]), Integer.parseInt(n[3]));
            } else if (clause.charAt(0) == 'm') {
                answer = mark(first, Integer.parseInt(n[1]));
            } else {
                answer = drop(first);
            }
            done += answer < 0 ? 0 : 1;
        }
        return done;
    }

    // ---- moves

    int product(int a, int b) {
        return isMove(a) && isMove(b) ? PRODUCTS[a][b] : -1;
    }

    int move(int move, int what) {
        if (!isMove(move) || !in(what, 0, 3)) {
            return -1;
        }
        int moved = moved(points, move);
        return new int[] {inverse(move), order(move), moved == 0 ? 1 : 0, moved}[what];
    }

    int trace(int move, int what) {
        if (!isMove(move) || !in(what, 0, 1)) {
            return -9;
        }
        return what == 0 ? traceOf(move) : turnOf(move);
    }

    int takes(int move, int point) {
        return isMove(move) && isPoint(point) ? find(points, takePlace(move, points.get(point))) : -1;
    }

    int told(int what) {
        List<Integer> group = groupOf(points);
        switch (what) {
            case 0:
                return points.size();
            case 1:
                return group.size();
            case 2:
                return classesOf(group).size();
            case 3:
                return orbitsOf(points, group);
            case 4:
                return group.stream().allMatch(g -> turnOf(g) == 1) ? 1 : 0;
            case 5:
                return group.contains(7) ? 1 : 0;
            case 6:
                return signsOf(group).size();
            case 7:
                int best = -5;
                for (int move = 47; move >= 0; move--) {
                    if (!group.contains(move) && (best < 0 || moved(points, move) <= moved(points, best))) {
                        best = move;
                    }
                }
                return best;
            default:
                return -1;
        }
    }

    int group(int k) {
        List<Integer> group = groupOf(points);
        return k < 0 ? -1 : k < group.size() ? group.get(k) : -5;
    }

    // ---- classes, motions, signs

    int classOf(int move, int what) {
        if (!isMove(move) || !in(what, 0, 1)) {
            return -1;
        }
        for (TreeSet<Integer> like : classesOf(groupOf(points)).values()) {
            if (like.contains(move)) {
                return what == 0 ? like.first() : like.size();
            }
        }
        return -3;
    }

    int classAt(int k) {
        List<Integer> least = new ArrayList<>(classesOf(groupOf(points)).keySet());
        return k < 0 ? -1 : k < least.size() ? least.get(k) : -5;
    }

    int motion(int motion, int move) {
        return in(motion, 0, 5) && groupOf(points).contains(move) ? motionOf(points, motion, move) : -1000;
    }

    int sign(int k, int move) {
        List<int[]> signs = signsOf(groupOf(points));
        return k >= 0 && k < signs.size() && isMove(move) ? signs.get(k)[move] : 0;
    }

    int has(int motion, int k) {
        List<Integer> group = groupOf(points);
        List<int[]> signs = signsOf(group);
        return in(motion, 0, 5) && in(k, 0, signs.size() - 1) ? times(group, motion, signs.get(k)) : -1000;
    }

    int active(int what) {
        if (!in(what, 0, 2)) {
            return -1;
        }
        List<Integer> group = groupOf(points);
        List<int[]> signs = signsOf(group);
        int[] bits = new int[3];
        for (int k = 0; k < signs.size(); k++) {
            boolean shifts = times(group, 2, signs.get(k)) > 0;
            boolean pairs = times(group, 5, signs.get(k)) > 0;
            bits[0] += shifts ? 1 << k : 0;
            bits[1] += pairs ? 1 << k : 0;
            bits[2] += shifts || pairs ? 0 : 1 << k;
        }
        return bits[what];
    }

    // ---- seen, odds

    private static int add(List<int[]> rows, int most, int a, int b) {
        if (rows.size() == most) {
            return -4;
        }
        rows.add(new int[] {a, b});
        return rows.size();
    }

    int see(int move, boolean is) {
        if (move == -1) {
            seen.clear();
            return 0;
        }
        return isMove(move) ? add(seen, 5, move, is ? 1 : 0) : -1;
    }

    private List<int[]> withMark(int point, int v) {
        List<int[]> shape = copy(points);
        shape.get(point)[3] = v;
        return shape;
    }

    int fits(int point, int what) {
        if (!isPoint(point) || !in(what, 0, 1)) {
            return -1;
        }
        List<Integer> fitting = new ArrayList<>();
        for (int v = 0; v < 5; v++) {
            List<Integer> group = groupOf(withMark(point, v));
            if (seen.stream().allMatch(row -> group.contains(row[0]) == (row[1] == 1))) {
                fitting.add(v);
            }
        }
        return what == 0 ? fitting.size() : fitting.isEmpty() ? -5 : fitting.get(0);
    }

    private static long fraction(int above, int below, int part) {
        int common = java.math.BigInteger.valueOf(above).gcd(java.math.BigInteger.valueOf(below)).intValue();
        return (part == 0 ? above : below) / common;
    }

    long odds(int point, int n, int part) {
        if (!isPoint(point) || !in(n, 0, 48) || !in(part, 0, 1)) {
            return Long.MIN_VALUE;
        }
        int likely = 0;
        for (int v = 0; v < 5; v++) {
            likely += groupOf(withMark(point, v)).size() >= n ? 1 : 0;
        }
        return fraction(likely, 5, part);
    }

    long mean(int part) {
        if (!in(part, 0, 1)) {
            return Long.MIN_VALUE;
        }
        List<Integer> group = groupOf(points);
        return fraction(group.stream().mapToInt(PlainModel::order).sum(), group.size(), part);
    }

    // ---- events, books

    int event(int what, int n) {
        if (what == -1) {
            events.clear();
            return 0;
        }
        if (!in(what, 0, 3)) {
            return -1;
        }
        return in(n, 0, new int[] {7, 4, 47, 4}[what]) ? add(events, 8, what, n) : -2;
    }

    int after(int what) {
        List<int[]> shape = copy(points);
        for (int[] row : events) {
            int n = row[1];
            if (row[0] == 0 && n < shape.size()) {
                shape.remove(n);
            }
            for (int[] point : shape) {
                if (row[0] == 1 && point[3] == n) {
                    point[3] = 0;
                } else if (row[0] == 2) {
                    System.arraycopy(takePlace(n, point), 0, point, 0, 3);
                } else if (row[0] == 3) {
                    point[3] = n;
                }
            }
        }
        List<Integer> group = groupOf(shape);
        return !in(what, 0, 2) ? -1
                : new int[] {group.size(), classesOf(group).size(), orbitsOf(shape, group)}[what];
    }

    int book(int move, int order) {
        if (move == -1) {
            book.clear();
            return 0;
        }
        if (!isMove(move)) {
            return -1;
        }
        return in(order, 1, 6) ? add(book, 8, move, order) : -2;
    }

    int looked() {
        List<Integer> group = groupOf(points);
        for (int row = 0; row < book.size(); row++) {
            if (!group.contains(book.get(row)[0]) || order(book.get(row)[0]) != book.get(row)[1]) {
                return row;
            }
        }
        return -5;
    }

    // ---- judging, the image, tapes

    int judge(int tape, int i) {
        if (!in(tape, 0, 5)) {
            return -1;
        }
        if (tapes[tape] != null && !(tapes[tape] instanceof byte[])) {
            return -12;
        }
        if (tapes[tape] == null || i < 0) {
            return 100;
        }
        byte[] row = (byte[]) tapes[tape];
        int looked = 0;
        for (int g : groupOf(points)) {
            long place = (long) i + looked;
            if (place >= row.length) {
                return 100 + looked;
            }
            if (row[(int) place] != g) {
                return looked;
            }
            looked++;
        }
        return -5;
    }

    int image() {
        image = List.of(copy(points), copy(seen), copy(events), copy(book));
        return points.size();
    }

    int undo() {
        if (image == null) {
            return -3;
        }
        points = copy(image.get(0));
        seen = copy(image.get(1));
        events = copy(image.get(2));
        book = copy(image.get(3));
        return points.size();
    }

    int count(int what) {
        return in(what, 0, 3) ? new int[] {seen.size(), events.size(), book.size(), text.length()}[what] : -2;
    }

    int tape(int tape, int sort, int n) {
        if (!in(tape, 0, 5)) {
            return -1;
        }
        if (sort == -1) {
            tapes[tape] = null;
            return 1;
        }
        if (!in(sort, 0, 4) || n > 60) {
            return -2;
        }
        if (n < 0) {
            return -14;
        }
        Class<?>[] sorts = {byte.class, short.class, int.class, long.class, boolean.class};
        tapes[tape] = java.lang.reflect.Array.newInstance(sorts[sort], n);
        return 1;
    }

    int item(int tape, int i, long v) {
        if (!in(tape, 0, 5)) {
            return -1;
        }
        if (tapes[tape] == null) {
            return -11;
        }
        if (!in(i, 0, java.lang.reflect.Array.getLength(tapes[tape]) - 1)) {
            return -13;
        }
        if (tapes[tape] instanceof byte[]) {
            ((byte[]) tapes[tape])[i] = (byte) v;
        } else if (tapes[tape] instanceof short[]) {
            ((short[]) tapes[tape])[i] = (short) v;
        } else if (tapes[tape] instanceof int[]) {
            ((int[]) tapes[tape])[i] = (int) v;
        } else if (tapes[tape] instanceof long[]) {
            ((long[]) tapes[tape])[i] = v;
        } else {
            ((boolean[]) tapes[tape])[i] = v != 0;
        }
        return 1;
    }

    long peek(int tape, int i) {
        if (!in(tape, 0, 5) || tapes[tape] == null
                || !in(i, 0, java.lang.reflect.Array.getLength(tapes[tape]) - 1)) {
            return Long.MIN_VALUE;
        }
        if (tapes[tape] instanceof boolean[]) {
            return ((boolean[]) tapes[tape])[i] ? 1 : 0;
        }
        return java.lang.reflect.Array.getLong(tapes[tape], i);
    }

    /** The host's own copying says what it refuses, and in which order. */
    int shift(int tape, int i, int other, int j, int n) {
        if (!in(tape, 0, 5) || !in(other, 0, 5)) {
            return -1;
        }
        try {
            System.arraycopy(tapes[tape], i, tapes[other], j, n);
            return n;
        } catch (NullPointerException e) {
            return -11;
        } catch (ArrayStoreException e) {
            return -12;
        } catch (IndexOutOfBoundsException e) {
            return -13;
        }
    }
}
