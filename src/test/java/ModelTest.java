import java.util.ArrayList;
import java.util.List;
import java.util.Random;

/** All promises: long runs of calls, the same each time, whose answers must be those of the slow model. */
public final class ModelTest {
    private static final int RUNS = 300;
    private static final int CALLS = 200;
    /** The document's own bound; every so many runs go up to it. */
    private static final int MOST_CALLS = 512;
    private static final int LONG_RUN_EVERY = 15;
    private static final int CALLS_OF_A_STEP = 3;
    private static final int[] EDGES = {0, 1, -1, 999, -999, 1000, -1000, 1001, 1000000, -1000000, 1000001,
        -1000001, 1000000000, -1000000000, 1000000001, -1000000001, Integer.MAX_VALUE, Integer.MIN_VALUE};

    private final Random dice;
    private final Check check;
    private final CarvedSolids program = new CarvedSolids();
    private final SlowModel model = new SlowModel();
    private final List<int[]> planes = new ArrayList<>();
    private int calls = 0;

    private ModelTest(long seed, Check check) {
        dice = new Random(seed);
        this.check = check;
    }

    public static void main(String[] args) {
        Check check = new Check("ModelTest");
        for (int run = 0; run < RUNS; run++) {
            ModelTest test = new ModelTest(run, check);
            int most = run % LONG_RUN_EVERY == 0 ? MOST_CALLS : CALLS;
            while (test.calls + CALLS_OF_A_STEP <= most) {
                test.step("run " + run + ", call " + test.calls + ": ");
            }
        }
        check.end();
    }

    private void step(String where) {
        switch (dice.nextInt(20)) {
            case 0 -> planeStep(where);
            case 1, 2, 3 -> convexStep(where);
            case 4, 5 -> {
                int how = dice.nextInt(20) == 0 ? wild() : dice.nextInt(4);
                same(5, where + "join(" + how + ")", () -> program.join(how), () -> model.join(how));
            }
            case 6 -> same(6, where + "turn()", this::turned, model::turn);
            case 7 -> {
                int k = dice.nextInt(10) == 0 ? wild() : dice.nextInt(4);
                same(7, where + "copy(" + k + ")", () -> program.copy(k), () -> model.copy(k));
            }
            case 8 -> {
                same(8, where + "drop()", program::drop, model::drop);
                same(9, where + "solids()", program::solids, model::solids);
                same(3, where + "planes()", program::planes, model::planes);
            }
            case 9, 10, 11, 12 -> pointStep(where, true);
            case 13, 14, 15, 16 -> pointStep(where, false);
            default -> entersStep(where);
        }
    }

    private int turned() {
        program.turn();
        return 0;
    }

    private void planeStep(String where) {
        int[] n = dice.nextInt(3) == 0 && !planes.isEmpty() ? likeAnother() : newPlane();
        if (dice.nextInt(10) == 0) {
            n[dice.nextInt(4)] = wild();
        }
        String call = where + "plane(" + n[0] + ", " + n[1] + ", " + n[2] + ", " + n[3] + ")";
        same(2, call, () -> program.plane(n[0], n[1], n[2], n[3]), () -> model.plane(n[0], n[1], n[2], n[3]));
        planes.add(n);
    }

    private int[] likeAnother() {
        int[] old = planes.get(dice.nextInt(planes.size()));
        int factor = dice.nextInt(7) - 3;
        return new int[] {old[0] * factor, old[1] * factor, old[2] * factor, old[3] * factor};
    }

    private int[] newPlane() {
        switch (dice.nextInt(4)) {
            case 0:
                int axis = dice.nextInt(3);
                int sign = dice.nextBoolean() ? 1 : -1;
                int d = dice.nextInt(3) == 0 ? (dice.nextInt(3) - 1) * 1000 : dice.nextInt(9) - 4;
                return new int[] {axis == 0 ? sign : 0, axis == 1 ? sign : 0, axis == 2 ? sign : 0, d};
            case 1:
                return new int[] {spread(1000000), spread(1000000), spread(1000000), spread(1000000000)};
            case 2:
                return new int[] {spread(3), spread(3), spread(3), spread(3000)};
            default:
                return new int[] {spread(2), spread(2), spread(2), spread(6)};
        }
    }

    private void convexStep(String where) {
        int set = dice.nextInt(20) == 0 ? wild() : dice.nextInt(1 << model.planes());
        same(4, where + "convex(" + set + ")", () -> program.convex(set), () -> model.convex(set));
    }

    private void pointStep(String where, boolean face) {
        int w = dice.nextInt(3) == 0 ? 1 + dice.nextInt(1000) : 1 + dice.nextInt(3);
        int[] p = {coordinate(w), coordinate(w), coordinate(w), w};
        if (dice.nextInt(2) == 0 && !planes.isEmpty()) {
            pullToPlane(p);
        }
        if (dice.nextInt(20) == 0) {
            p[dice.nextInt(4)] = wild();
        }
        String call = (face ? "side(" : "inside(") + p[0] + ", " + p[1] + ", " + p[2] + ", " + p[3] + ")";
        if (face) {
            same(11, where + call, () -> program.side(p[0], p[1], p[2], p[3]),
                    () -> model.side(p[0], p[1], p[2], p[3]));
        } else {
            same(10, where + call, () -> program.inside(p[0], p[1], p[2], p[3]),
                    () -> model.inside(p[0], p[1], p[2], p[3]));
        }
    }

    /** Moves one coordinate to where the point lies on a given plane, or as near to it as it can come. */
    private void pullToPlane(int[] p) {
        int[] n = planes.get(dice.nextInt(planes.size()));
        int axis = dice.nextInt(3);
        if (n[axis] == 0) {
            return;
        }
        long rest = (long) n[3] * p[3];
        for (int i = 0; i < 3; i++) {
            rest -= i == axis ? 0 : (long) n[i] * p[i];
        }
        long place = Math.floorDiv(rest, n[axis]);
        if (Math.abs(place) <= 1000000) {
            p[axis] = (int) place;
        }
    }

    private int coordinate(int w) {
        switch (dice.nextInt(8)) {
            case 0:
                return (dice.nextBoolean() ? 1000 : -1000) * w;
            case 1:
                return (dice.nextBoolean() ? 1000 : -1000) * w + (dice.nextBoolean() && w < 1000 ? 1 : 0);
            case 2:
                return spread(1000 * w);
            default:
                return spread(6);
        }
    }

    private void entersStep(String where) {
        int axis = dice.nextInt(30) == 0 ? wild() : dice.nextInt(3);
        int u = dice.nextInt(30) == 0 ? wild() : spread(dice.nextBoolean() ? 6 : 999);
        int v = dice.nextInt(30) == 0 ? wild() : spread(dice.nextBoolean() ? 6 : 999);
        same(12, where + "enters(" + axis + ", " + u + ", " + v + ")",
                () -> program.enters(axis, u, v), () -> model.enters(axis, u, v));
    }

    private int spread(int most) {
        return dice.nextInt(2 * most + 1) - most;
    }

    private int wild() {
        return EDGES[dice.nextInt(EDGES.length)];
    }

    private void same(int promise, String what, Check.Call got, Check.Call want) {
        calls++;
        check.dueText(promise, what, Check.told(want), Check.told(got));
    }
}
