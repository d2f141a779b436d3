import java.util.NoSuchElementException;

/** Promise 11: which way faces look. */
public final class SideTest {
    private static final Class<IllegalArgumentException> ARGUMENT = IllegalArgumentException.class;
    private static final Class<IllegalStateException> STATE = IllegalStateException.class;
    private static final Class<NoSuchElementException> NONE = NoSuchElementException.class;

    public static void main(String[] args) {
        Check check = new Check("SideTest");
        theBox(check);
        bothWays(check);
        theFirstOneSays(check);
        theBoxSaysFirst(check);
        sheets(check);
        outOfTheBox(check);
        notOnASide(check);
        planesThatAreNotOne(check);
        refused(check);
        check.end();
    }

    private static void theBox(Check check) {
        CarvedSolids x = new CarvedSolids();
        x.convex(0);
        for (int s = -1; s <= 1; s += 2) {
            int sign = s;
            check.due(11, "the box at x", 1, () -> x.side(sign * 1000, 1, 2, 1));
            check.due(11, "the box at y", 1, () -> x.side(1, sign * 1000, 2, 1));
            check.due(11, "the box at z", 1, () -> x.side(1, 2, sign * 1000000, 1000));
        }
        x.turn();
        check.due(11, "nothing at x", 0, () -> x.side(1000, 1, 2, 1));
    }

    private static void bothWays(Check check) {
        CarvedSolids x = new CarvedSolids();
        x.plane(2, 3, -1, 5);
        x.convex(0);
        check.due(11, "there on both sides", 0, () -> x.side(1, 1, 0, 1));
        x.turn();
        check.due(11, "there on none", 0, () -> x.side(1, 1, 0, 1));
        x.convex(1);
        check.due(11, "there where it is less", 1, () -> x.side(1, 1, 0, 1));
        check.due(11, "with halves too", 1, () -> x.side(3, 2, 2, 2));
        x.turn();
        check.due(11, "there where it is more", -1, () -> x.side(1, 1, 0, 1));
        check.due(11, "the box's face beyond", 1, () -> x.side(1000, 0, 0, 1));
        check.due(11, "not the box's face before", 0, () -> x.side(-1000, 0, 0, 1));
    }

    private static void theFirstOneSays(Check check) {
        CarvedSolids x = new CarvedSolids();
        x.plane(-1, -1, 0, -10);
        x.plane(3, 3, 0, 30);
        x.convex(1);
        check.due(11, "the first one's half-space", 1, () -> x.side(5, 5, 0, 1));
        x.convex(2);
        check.due(11, "the second one's, told by the first", -1, () -> x.side(5, 5, 0, 1));
        x.plane(1, -1, 0, 0);
        check.thrown(11, "a plane across", NONE, () -> x.side(5, 5, 0, 1));
        check.due(11, "beside it", -1, () -> x.side(4, 6, 0, 1));
    }

    private static void theBoxSaysFirst(Check check) {
        CarvedSolids x = new CarvedSolids();
        x.plane(-5, 0, 0, -5000);
        x.plane(0, 7, 0, -7000);
        x.convex(0);
        check.due(11, "the box's numbers at x", 1, () -> x.side(1000, 1, 2, 1));
        check.due(11, "the box's numbers at y", 1, () -> x.side(1, -1000, 2, 1));
        x.convex(1);
        check.due(11, "a sheet in the box's face", 0, () -> x.side(1000, 1, 2, 1));
        x.turn();
        check.due(11, "the box without that sheet", 1, () -> x.side(1000, 1, 2, 1));
        x.convex(2);
        check.due(11, "a sheet in another face", 0, () -> x.side(1, -1000, 2, 1));
    }

    private static void sheets(Check check) {
        CarvedSolids x = new CarvedSolids();
        x.plane(0, 0, 1, 4);
        x.plane(0, 0, -2, -8);
        x.convex(3);
        check.due(11, "a sheet is there on no side", 0, () -> x.side(1, 1, 4, 1));
        x.turn();
        check.due(11, "all without a sheet, on both", 0, () -> x.side(1, 1, 4, 1));
        x.convex(1);
        x.convex(2);
        x.join(2);
        check.due(11, "below without the sheet", 1, () -> x.side(1, 1, 4, 1));
        x.convex(1);
        x.convex(2);
        x.join(3);
        check.due(11, "below and above alone", 0, () -> x.side(1, 1, 4, 1));
    }

    private static void outOfTheBox(Check check) {
        CarvedSolids x = new CarvedSolids();
        x.plane(1, 0, 0, 4);
        x.plane(0, 1, 0, 2000);
        x.convex(1);
        check.due(11, "a plane out of the box", 0, () -> x.side(4, 1001, 0, 1));
        check.due(11, "a plane that is wholly out of it", 0, () -> x.side(1, 2000, 0, 1));
        check.due(11, "a box's plane out of the box", 0, () -> x.side(1000, 1500, 0, 1));
        check.due(11, "the same plane in the box", 1, () -> x.side(4, 999, 0, 1));
        x.convex(0);
        check.due(11, "a box's plane beside the box", 0, () -> x.side(0, 1000, 1001, 1));
        x.convex(2);
        check.due(11, "a plane out of the box cuts nothing", 1, () -> x.side(1, 1000, 0, 1));
    }

    private static void notOnASide(Check check) {
        CarvedSolids x = new CarvedSolids();
        x.convex(0);
        check.thrown(11, "a free point", NONE, () -> x.side(0, 0, 0, 1));
        check.thrown(11, "a free point out of the box", NONE, () -> x.side(1001, 0, 0, 1));
        check.thrown(11, "an edge of the box", NONE, () -> x.side(1000, -1000, 0, 1));
        check.thrown(11, "a corner of the box", NONE, () -> x.side(1000, -1000, 1000, 1));
        check.thrown(11, "two planes out of the box", NONE, () -> x.side(1000, -1000, 5000, 1));
        x.plane(1, 1, 0, 2000);
        check.thrown(11, "a plane that touches the edge", NONE, () -> x.side(1000, 1000, 3, 1));
        check.due(11, "the edge's face is not touched", 1, () -> x.side(1000, 999, 3, 1));
        x.plane(1, 0, 0, 0);
        x.plane(1, 0, 0, 0);
        check.due(11, "planes that are one are one", 0, () -> x.side(0, 5, 5, 1));
        check.thrown(11, "them and the box", NONE, () -> x.side(0, 1000, 5, 1));
    }

    /** Pairs that are alike in all but one respect; each pair's common point is on two planes. */
    private static void planesThatAreNotOne(Check check) {
        int[][] pairs = {
            {0, 1, 0, 0, 0, 0, 1, 0}, {1, 0, 0, 0, 0, 0, 1, 0}, {1, 0, 0, 0, 0, 1, 0, 0},
            {1, 1, 0, 0, 1, -1, 0, 0}, {0, 1, 2, 0, 0, 2, 1, 0}, {1, 0, 3, 0, -1, 0, 3, 0},
            {1, 1, 1, 0, 1, 1, 2, 0}, {1000000, 999999, 0, 0, 999999, 999998, 0, 0},
        };
        for (int[] n : pairs) {
            CarvedSolids x = new CarvedSolids();
            x.plane(n[0], n[1], n[2], n[3]);
            x.convex(1);
            check.due(11, "one plane alone", 1, () -> x.side(0, 0, 0, 1));
            x.plane(n[0], n[1], n[2], n[3]);
            check.due(11, "with itself", 1, () -> x.side(0, 0, 0, 1));
            x.plane(n[4], n[5], n[6], n[7]);
            check.thrown(11, "with another", NONE, () -> x.side(0, 0, 0, 1));
        }
        CarvedSolids x = new CarvedSolids();
        x.plane(1, 2, 3, 4);
        x.plane(1, 2, 3, 5);
        x.convex(1);
        check.due(11, "planes side by side, the first", 1, () -> x.side(1, 0, 1, 1));
        check.due(11, "planes side by side, the second", 0, () -> x.side(0, 1, 1, 1));
    }

    private static void refused(Check check) {
        CarvedSolids x = new CarvedSolids();
        check.thrown(11, "no solid", STATE, () -> x.side(1000, 0, 0, 1));
        check.thrown(11, "no solid and a free point", STATE, () -> x.side(0, 0, 0, 1));
        check.thrown(11, "no solid and no point", ARGUMENT, () -> x.side(1000, 0, 0, 1001));
        x.convex(0);
        int[] wrongW = {0, -1, 1001, Integer.MIN_VALUE, Integer.MAX_VALUE};
        for (int w : wrongW) {
            check.thrown(11, "w = " + w, ARGUMENT, () -> x.side(0, 0, 0, w));
        }
        int[] far = {1000001, -1000001, Integer.MIN_VALUE, Integer.MAX_VALUE};
        for (int n : far) {
            check.thrown(11, "x = " + n, ARGUMENT, () -> x.side(n, 0, 0, 1000));
            check.thrown(11, "y = " + n, ARGUMENT, () -> x.side(0, n, 0, 1000));
            check.thrown(11, "z = " + n, ARGUMENT, () -> x.side(0, 0, n, 1000));
        }
    }
}
