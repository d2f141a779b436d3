import java.util.NoSuchElementException;

/** Promise 12: how often lines go in. */
public final class EntersTest {
    private static final Class<IllegalArgumentException> ARGUMENT = IllegalArgumentException.class;
    private static final Class<IllegalStateException> STATE = IllegalStateException.class;
    private static final Class<NoSuchElementException> NONE = NoSuchElementException.class;

    public static void main(String[] args) {
        Check check = new Check("EntersTest");
        theBox(check);
        orderOfUAndV(check);
        slices(check);
        slantedAndSteep(check);
        twoPlanesInAPoint(check);
        inAPlane(check);
        sheets(check);
        refused(check);
        check.end();
    }

    private static void theBox(Check check) {
        CarvedSolids x = new CarvedSolids();
        x.convex(0);
        for (int axis = 0; axis < 3; axis++) {
            int along = axis;
            check.due(12, "the box along " + axis, 1, () -> x.enters(along, 0, 0));
            check.due(12, "the box's rim along " + axis, 1, () -> x.enters(along, 999, -999));
            check.due(12, "the other rim along " + axis, 1, () -> x.enters(along, -999, 999));
        }
        x.turn();
        check.due(12, "nothing", 0, () -> x.enters(1, 2, 3));
    }

    /** A rod at y = 100, z = 200, and one like it for each other axis. */
    private static void orderOfUAndV(Check check) {
        for (int axis = 0; axis < 3; axis++) {
            CarvedSolids x = new CarvedSolids();
            int first = axis == 0 ? 1 : 0;
            int second = axis == 2 ? 1 : 2;
            planeAcross(x, first, 1, 101);
            planeAcross(x, first, -1, -99);
            planeAcross(x, second, 1, 201);
            planeAcross(x, second, -1, -199);
            x.convex(15);
            int along = axis;
            check.due(12, "a rod along " + axis, 1, () -> x.enters(along, 100, 200));
            check.due(12, "with u and v exchanged", 0, () -> x.enters(along, 200, 100));
            check.due(12, "beside it", 0, () -> x.enters(along, 102, 200));
            check.due(12, "beside it the other way", 0, () -> x.enters(along, 100, 198));
            check.due(12, "across it", 1, () -> x.enters(first, along == 0 ? 5 : along == 1 ? 5 : 200,
                    along == 0 ? 200 : along == 1 ? 200 : 5));
        }
    }

    private static void planeAcross(CarvedSolids x, int axis, int sign, int d) {
        x.plane(axis == 0 ? sign : 0, axis == 1 ? sign : 0, axis == 2 ? sign : 0, d);
    }

    private static void slices(Check check) {
        CarvedSolids x = new CarvedSolids();
        int[] cuts = {-700, -400, -100, 0, 100, 400, 700, 900};
        for (int cut : cuts) {
            x.plane(0, 1, 0, cut);
        }
        x.convex(0);
        for (int k = 0; k < 8; k++) {
            x.convex(1 << k);
            x.join(3);
        }
        // Nine slices, every other one there, the highest among them.
        check.due(12, "five of nine slices", 5, () -> x.enters(1, 1, 2));
        x.turn();
        check.due(12, "the four others", 4, () -> x.enters(1, 1, 2));
        check.due(12, "across, in a slice that is there", 1, () -> x.enters(0, -500, 2));
        check.due(12, "across, in one that is not", 0, () -> x.enters(0, -200, 2));
    }

    private static void slantedAndSteep(Check check) {
        CarvedSolids x = new CarvedSolids();
        x.plane(3, 1, 0, 10);
        x.plane(-3, 1, 0, 10);
        x.plane(1, 0, 0, 5000);
        x.plane(1000000, 1000000, 1000000, -1000000000);
        x.convex(1);
        check.due(12, "a plane that falls", 1, () -> x.enters(0, 5, 5));
        x.convex(2);
        check.due(12, "one that rises", 1, () -> x.enters(0, 5, 5));
        x.join(3);
        check.due(12, "both alone", 2, () -> x.enters(0, 5, 5));
        x.turn();
        check.due(12, "neither or both", 1, () -> x.enters(0, 5, 5));
        check.due(12, "neither or both, the other order", 1, () -> x.enters(0, 500, 5));
        x.convex(4);
        check.due(12, "a plane out of the box", 1, () -> x.enters(0, 5, 5));
        x.turn();
        check.due(12, "nothing beyond it", 0, () -> x.enters(0, 5, 5));
        x.convex(8);
        check.due(12, "a corner cut off, within", 1, () -> x.enters(2, -999, -998));
        check.due(12, "a corner cut off, beyond", 0, () -> x.enters(2, 5, 6));
        x.turn();
        check.due(12, "the rest of it", 1, () -> x.enters(2, 5, 6));
    }

    private static void twoPlanesInAPoint(Check check) {
        CarvedSolids x = new CarvedSolids();
        x.plane(1, -1, 0, 0);
        x.plane(1, 1, 0, 0);
        x.convex(0);
        check.thrown(12, "two given planes", NONE, () -> x.enters(0, 0, 7));
        check.thrown(12, "two given planes along y", NONE, () -> x.enters(1, 0, 7));
        check.due(12, "beside their common line", 1, () -> x.enters(0, 1, 7));
        x.plane(1, 0, 1, 1500);
        check.thrown(12, "a given plane and the box's", NONE, () -> x.enters(0, 1, 500));
        check.thrown(12, "at the box's other end", NONE, () -> x.enters(2, 500, 1));
        check.due(12, "just beside", 1, () -> x.enters(0, 1, 501));
        x.plane(1, 0, 0, 1100);
        check.due(12, "two planes out of the box", 1, () -> x.enters(0, 2, 400));
        x.plane(2, -2, 0, 0);
        x.plane(-1, 0, 0, -1000);
        x.plane(0, 1, 1, 2000);
        check.due(12, "planes that are one", 1, () -> x.enters(0, 1, 7));
        x.turn();
        check.thrown(12, "two planes where no solid is", NONE, () -> x.enters(0, 0, 7));
    }

    private static void inAPlane(Check check) {
        CarvedSolids x = new CarvedSolids();
        x.plane(0, 1, 1, 10);
        x.convex(1);
        check.thrown(12, "in a plane", NONE, () -> x.enters(0, 4, 6));
        check.due(12, "below it", 1, () -> x.enters(0, 4, 5));
        check.due(12, "above it", 0, () -> x.enters(0, 4, 7));
        check.due(12, "through it", 1, () -> x.enters(1, 4, 6));
        x.plane(0, -3, -3, -30);
        check.thrown(12, "in two that are one", NONE, () -> x.enters(0, 4, 6));
        x.plane(0, 0, 1, 2);
        check.thrown(12, "in a plane of no solid", NONE, () -> x.enters(1, 5, 2));
        check.thrown(12, "in a plane, across", NONE, () -> x.enters(0, 3, 2));
    }

    /** Sheets without thickness have no free points: the line's way is told by where it is free. */
    private static void sheets(Check check) {
        CarvedSolids x = new CarvedSolids();
        x.plane(1, 0, 0, 0);
        x.plane(-1, 0, 0, 0);
        x.convex(3);
        check.due(12, "a sheet alone", 0, () -> x.enters(0, 5, 5));
        x.turn();
        check.due(12, "all without a sheet", 1, () -> x.enters(0, 5, 5));
        x.plane(-1, 0, 0, -1000);
        x.convex(4);
        check.due(12, "a sheet in the box's face", 0, () -> x.enters(0, 5, 5));
        check.due(12, "beside a sheet", 0, () -> x.enters(2, 8, 8));
        x.turn();
        check.due(12, "the box without that sheet", 1, () -> x.enters(0, 5, 5));
    }

    private static void refused(Check check) {
        CarvedSolids x = new CarvedSolids();
        x.plane(0, 1, 0, 3);
        check.thrown(12, "no solid", STATE, () -> x.enters(0, 0, 0));
        check.thrown(12, "no solid and in a plane", STATE, () -> x.enters(0, 3, 0));
        check.thrown(12, "no solid and no axis", ARGUMENT, () -> x.enters(3, 0, 0));
        check.thrown(12, "no solid and no u", ARGUMENT, () -> x.enters(0, 1000, 0));
        x.convex(0);
        int[] wrongAxes = {-1, 3, Integer.MIN_VALUE, Integer.MAX_VALUE};
        for (int axis : wrongAxes) {
            check.thrown(12, "axis " + axis, ARGUMENT, () -> x.enters(axis, 0, 0));
        }
        int[] far = {1000, -1000, Integer.MIN_VALUE, Integer.MAX_VALUE};
        for (int n : far) {
            check.thrown(12, "u = " + n, ARGUMENT, () -> x.enters(2, n, 0));
            check.thrown(12, "v = " + n, ARGUMENT, () -> x.enters(2, 0, n));
        }
        check.thrown(12, "in a plane and no v", ARGUMENT, () -> x.enters(0, 3, 1000));
    }
}
