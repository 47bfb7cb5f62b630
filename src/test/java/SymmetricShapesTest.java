import java.util.ArrayList;
import java.util.LinkedHashSet;
import java.util.List;
import java.util.Map;
import java.util.Random;
import java.util.Set;
import java.util.TreeMap;

/**
 * Promises 5, 9 to 20 and 22 to 26 on shapes of every symmetry that eight points can have: all that
 * can be asked of each, beside what PlainModel answers. The seeds are fixed.
 */
public final class SymmetricShapesTest {
    private static final int SHAPES = 4000;
    private static final int MOST_OF_A_KIND = 12;
    private static final Due due = new Due("SymmetricShapesTest");
    private static final Map<String, Integer> kinds = new TreeMap<>();

    private final Random random;
    private final PlainModel model = new PlainModel();
    private ShapeMoves x = new ShapeMoves();

    private SymmetricShapesTest(int seed) {
        random = new Random(seed);
    }

    public static void main(String[] args) {
        for (int seed = 0; seed < SHAPES; seed++) {
            due.promise("shape with seed " + seed);
            new SymmetricShapesTest(seed).run();
        }
        due.promise("the shapes of this test");
        due.is("kinds of groups", kinds.size(), 21);
        due.end();
    }

    private void run() {
        List<Integer> group = someGroup();
        for (int k = 0; k < 5; k++) {
            addAlike(group, 1 + random.nextInt(4));
        }
        String kind = model.told(1) + " " + model.told(2) + " " + model.told(4) + " " + model.told(5)
                + " " + model.told(6);
        if (kinds.merge(kind, 1, Integer::sum) > MOST_OF_A_KIND) {
            return;
        }
        askGroup();
        askMoves();
        askSigns();
        askPoints();
        askAfter();
    }

    private List<Integer> someGroup() {
        List<Integer> group = new ArrayList<>(List.of(0));
        int more = 1 + random.nextInt(3);
        for (int i = 0; i < more; i++) {
            int move = random.nextInt(48);
            if (!group.contains(move)) {
                group.add(move);
            }
        }
        for (int i = 0; i < group.size(); i++) {
            for (int j = 0; j < group.size(); j++) {
                int product = model.product(group.get(i), group.get(j));
                if (!group.contains(product)) {
                    group.add(product);
                    i = 0;
                    j = 0;
                }
            }
        }
        return group;
    }

    /** A point and all to which the group takes it, with one mark, if there is room. */
    private void addAlike(List<Integer> group, int mark) {
        int[] place = new int[3];
        int kind = random.nextInt(4);
        for (int i = 0; i < 3; i++) {
            place[i] = random.nextInt(7) - 3;
        }
        if (kind > 0) {
            place[random.nextInt(3)] = 0;
        }
        if (kind > 1) {
            place[random.nextInt(3)] = place[random.nextInt(3)];
        }
        Set<List<Integer>> places = new LinkedHashSet<>();
        for (int move : group) {
            int[] behind = PlainModel.takePlace(move, place);
            places.add(List.of(behind[0], behind[1], behind[2]));
        }
        if (model.told(0) + places.size() <= 8) {
            for (List<Integer> p : places) {
                due.is("point", x.point(p.get(0), p.get(1), p.get(2), mark),
                        model.point(p.get(0), p.get(1), p.get(2), mark));
            }
        }
    }

    /** Another object with the model's points: each is used for at most 512 calls. */
    private void renew() {
        x = new ShapeMoves();
        for (int point = 0; point < model.told(0); point++) {
            x.point(model.of(point, 0), model.of(point, 1), model.of(point, 2), model.of(point, 3));
        }
    }

    private void askGroup() {
        renew();
        for (int what = -1; what <= 8; what++) {
            due.is("told(" + what + ")", x.told(what), model.told(what));
        }
        for (int k = 0; k <= 48; k++) {
            due.is("group(" + k + ")", x.group(k), model.group(k));
        }
        for (int k = 0; k <= 11; k++) {
            due.is("classAt(" + k + ")", x.classAt(k), model.classAt(k));
        }
        for (int part = 0; part < 2; part++) {
            due.is("mean(" + part + ")", x.mean(part), model.mean(part));
        }
    }

    private void askMoves() {
        for (int move = 0; move < 48; move++) {
            if (move % 12 == 0) {
                renew();
            }
            for (int what = 0; what < 4; what++) {
                due.is("move(" + move + ", " + what + ")", x.move(move, what), model.move(move, what));
            }
            for (int what = 0; what < 2; what++) {
                due.is("classOf(" + move + ", " + what + ")", x.classOf(move, what), model.classOf(move, what));
            }
            for (int motion = 0; motion < 6; motion++) {
                due.is("motion(" + motion + ", " + move + ")", x.motion(motion, move), model.motion(motion, move));
            }
            for (int point = 0; point < 8; point++) {
                due.is("takes(" + move + ", " + point + ")", x.takes(move, point), model.takes(move, point));
            }
        }
    }

    private void askSigns() {
        renew();
        for (int k = 0; k <= 8; k++) {
            for (int move = 0; move < 48; move++) {
                due.is("sign(" + k + ", " + move + ")", x.sign(k, move), model.sign(k, move));
            }
            for (int motion = 0; motion < 6; motion++) {
                due.is("has(" + motion + ", " + k + ")", x.has(motion, k), model.has(motion, k));
            }
        }
        for (int what = 0; what < 3; what++) {
            due.is("active(" + what + ")", x.active(what), model.active(what));
        }
    }

    private void askPoints() {
        renew();
        for (int row = 0; row < 1 + random.nextInt(4); row++) {
            int move = random.nextInt(3) > 0 ? model.group(random.nextInt(model.told(1))) : random.nextInt(48);
            boolean is = random.nextInt(4) > 0 == (model.move(move, 2) == 1);
            due.is("see(" + move + ", " + is + ")", x.see(move, is), model.see(move, is));
        }
        for (int point = 0; point < model.told(0); point++) {
            due.is("of(" + point + ", 4)", x.of(point, 4), model.of(point, 4));
            for (int what = 0; what < 2; what++) {
                due.is("fits(" + point + ", " + what + ")", x.fits(point, what), model.fits(point, what));
                for (int n = 0; n <= 48; n += n < 9 ? 1 : 4) {
                    due.is("odds(" + point + ", " + n + ", " + what + ")",
                            x.odds(point, n, what), model.odds(point, n, what));
                }
            }
        }
    }

    private void askAfter() {
        int[] most = {7, 4, 47, 4};
        for (int row = 0; row < 8; row++) {
            int what = random.nextInt(4);
            int n = random.nextInt(most[what] + 1);
            due.is("event(" + what + ", " + n + ")", x.event(what, n), model.event(what, n));
            for (int w = 0; w < 3; w++) {
                due.is("after(" + w + ")", x.after(w), model.after(w));
            }
        }
    }
}
