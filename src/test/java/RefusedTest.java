import java.util.NoSuchElementException;

/**
 * A refused call changes nothing, and neither does one that only asks: an object after such calls answers as its
 * twin does that never heard of them.
 */
public final class RefusedTest {
    private static final Class<IllegalArgumentException> ARGUMENT = IllegalArgumentException.class;
    private static final Class<IllegalStateException> STATE = IllegalStateException.class;
    private static final Class<IndexOutOfBoundsException> INDEX = IndexOutOfBoundsException.class;
    private static final Class<NoSuchElementException> NONE = NoSuchElementException.class;
    private static final int MOST_PLANES = 8;
    private static final int MOST_SOLIDS = 6;

    public static void main(String[] args) {
        Check check = new Check("RefusedTest");
        for (int planes = 0; planes <= MOST_PLANES; planes++) {
            for (int solids = 0; solids <= MOST_SOLIDS; solids++) {
                CarvedSolids x = made(planes, solids);
                refuseAll(check, x, planes, solids);
                askAll(x);
                String where = planes + " planes and " + solids + " solids after refused calls";
                check.dueText(2, where, unpacked(made(planes, solids)), unpacked(x));
            }
        }
        check.end();
    }

    /** Planes across x, y and x + y, and solids that use them in turn, every other one turned. */
    private static CarvedSolids made(int planes, int solids) {
        CarvedSolids x = new CarvedSolids();
        for (int k = 0; k < planes; k++) {
            x.plane(k % 3 != 1 ? 1 : 0, k % 3 != 0 ? 1 : 0, 0, 20 * k - 70);
        }
        for (int k = 0; k < solids; k++) {
            x.convex(planes == 0 ? 0 : 1 << k % planes);
            if (k % 2 == 1) {
                x.turn();
            }
        }
        return x;
    }

    private static void refuseAll(Check check, CarvedSolids x, int planes, int solids) {
        String where = planes + " planes, " + solids + " solids, ";
        check.thrown(2, where + "plane of zeros", ARGUMENT, () -> x.plane(0, 0, 0, 3));
        check.thrown(2, where + "plane too steep", ARGUMENT, () -> x.plane(1, 2, 1000001, 3));
        check.thrown(2, where + "plane too far", ARGUMENT, () -> x.plane(0, 0, 1, -1000000001));
        check.thrown(4, where + "convex(-1)", ARGUMENT, () -> x.convex(-1));
        check.thrown(4, where + "convex of one not given", ARGUMENT, () -> x.convex(1 << planes));
        check.thrown(5, where + "join(-1)", ARGUMENT, () -> x.join(-1));
        check.thrown(5, where + "join(4)", ARGUMENT, () -> x.join(4));
        check.thrown(7, where + "copy(-1)", INDEX, () -> x.copy(-1));
        check.thrown(7, where + "copy below the lowest", INDEX, () -> x.copy(solids));
        check.thrown(10, where + "inside at w = 0", ARGUMENT, () -> x.inside(1, 1, 1, 0));
        check.thrown(11, where + "side at w = 1001", ARGUMENT, () -> x.side(1, 1, 1, 1001));
        check.thrown(12, where + "enters on axis 3", ARGUMENT, () -> x.enters(3, 1, 1));
        check.thrown(12, where + "enters at v = 1000", ARGUMENT, () -> x.enters(0, 1, 1000));
        if (planes == MOST_PLANES) {
            check.thrown(2, where + "a ninth plane", STATE, () -> x.plane(0, 0, 1, 1));
        }
        if (solids == MOST_SOLIDS) {
            check.thrown(4, where + "convex of a seventh", STATE, () -> x.convex(0));
            check.thrown(7, where + "copy of a seventh", STATE, () -> x.copy(1));
        }
        if (solids < 2) {
            check.thrown(5, where + "join of fewer than two", STATE, () -> x.join(0));
        }
        refuseWithoutSolidOrPoint(check, x, where, solids);
    }

    private static void refuseWithoutSolidOrPoint(Check check, CarvedSolids x, String where, int solids) {
        if (solids == 0) {
            check.thrown(6, where + "turn", STATE, () -> {
                x.turn();
                return 0;
            });
            check.thrown(8, where + "drop", STATE, x::drop);
            check.thrown(10, where + "inside", STATE, () -> x.inside(1, 1, 1, 1));
            check.thrown(11, where + "side", STATE, () -> x.side(1, 1, 1000, 1));
            check.thrown(12, where + "enters", STATE, () -> x.enters(0, 1, 1));
        } else {
            check.thrown(11, where + "side of a free point", NONE, () -> x.side(1, 1, 1, 1));
            check.thrown(11, where + "side of an edge", NONE, () -> x.side(1, 1000, 1000, 1));
        }
    }

    private static void askAll(CarvedSolids x) {
        x.planes();
        x.solids();
        seen(x);
    }

    /** What there is to be told of an object, solid by solid; the solids are gone then. */
    private static String unpacked(CarvedSolids x) {
        StringBuilder text = new StringBuilder();
        text.append("planes ").append(x.planes()).append(", solids ").append(x.solids());
        for (int there = x.solids(); there > 0; there--) {
            text.append(" | ").append(seen(x));
            x.drop();
        }
        text.append(" | next plane ").append(Check.told(() -> x.plane(0, 0, 1, 0)));
        return text.append(", next solid ").append(Check.told(() -> x.convex(0))).toString();
    }

    /** The top solid at a few points and lines, the planes' own among them: few, for an object has 512 calls. */
    private static String seen(CarvedSolids x) {
        StringBuilder text = new StringBuilder();
        for (int px = -80; px <= 80; px += 10) {
            int u = px;
            int v = px * 7 % 90;
            text.append(Check.told(() -> x.inside(u, v, 1, 1)).charAt(0));
            text.append(Check.told(() -> x.side(u, v, 1, 1)).charAt(0));
            text.append(Check.told(() -> x.enters(2, u, v)).charAt(0));
        }
        return text.append(Check.told(() -> x.enters(0, 3, 3))).append(Check.told(() -> x.enters(1, 3, 3))).toString();
    }
}
