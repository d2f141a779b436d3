/** Promise 10: where points lie. */
public final class InsideTest {
    private static final Class<IllegalArgumentException> ARGUMENT = IllegalArgumentException.class;
    private static final Class<IllegalStateException> STATE = IllegalStateException.class;

    public static void main(String[] args) {
        Check check = new Check("InsideTest");
        theBox(check);
        thePlanes(check);
        greatNumbers(check);
        refused(check);
        check.end();
    }

    private static void theBox(Check check) {
        CarvedSolids x = new CarvedSolids();
        x.convex(0);
        check.due(10, "the middle", CarvedSolids.INSIDE, () -> x.inside(0, 0, 0, 1));
        for (int s = -1; s <= 1; s += 2) {
            int sign = s;
            check.due(10, "on x", CarvedSolids.ON, () -> x.inside(sign * 1000, 1, 2, 1));
            check.due(10, "on y", CarvedSolids.ON, () -> x.inside(1, sign * 1000, 2, 1));
            check.due(10, "on z", CarvedSolids.ON, () -> x.inside(1, 2, sign * 1000, 1));
            check.due(10, "just in at x", CarvedSolids.INSIDE, () -> x.inside(sign * 999999, 1, 2, 1000));
            check.due(10, "just in at y", CarvedSolids.INSIDE, () -> x.inside(1, sign * 998999, 2, 999));
            check.due(10, "just in at z", CarvedSolids.INSIDE, () -> x.inside(1, 2, sign * 1999, 2));
            check.due(10, "just out at x", CarvedSolids.OUTSIDE, () -> x.inside(sign * 999001, 1, 2, 999));
            check.due(10, "just out at y", CarvedSolids.OUTSIDE, () -> x.inside(1, sign * 2001, 2, 2));
            check.due(10, "just out at z", CarvedSolids.OUTSIDE, () -> x.inside(1, 2, sign * 1001, 1));
            check.due(10, "on the last of x / 1000", CarvedSolids.ON, () -> x.inside(sign * 1000000, 1, 2, 1000));
        }
        check.due(10, "a box's plane out of the box", CarvedSolids.ON, () -> x.inside(1000, 5000, 0, 1));
        check.due(10, "a corner", CarvedSolids.ON, () -> x.inside(-1000, 1000, 1000, 1));
        check.due(10, "far out", CarvedSolids.OUTSIDE, () -> x.inside(1000000, -1000000, 1000000, 1));
        x.turn();
        check.due(10, "in nothing", CarvedSolids.OUTSIDE, () -> x.inside(0, 0, 0, 1));
        check.due(10, "far out of nothing", CarvedSolids.OUTSIDE, () -> x.inside(1000000, 0, 0, 1));
    }

    private static void thePlanes(Check check) {
        CarvedSolids x = new CarvedSolids();
        x.convex(0);
        x.plane(3, -2, 1, 4);
        check.due(10, "on a plane no solid uses", CarvedSolids.ON, () -> x.inside(2, 1, 0, 1));
        check.due(10, "on it with halves", CarvedSolids.ON, () -> x.inside(3, 1, 1, 2));
        check.due(10, "on it out of the box", CarvedSolids.ON, () -> x.inside(2000, 3000, 4, 1));
        check.due(10, "on no plane, near it", CarvedSolids.INSIDE, () -> x.inside(2000, 1000, 1, 1000));
        x.convex(1);
        check.due(10, "on its own plane", CarvedSolids.ON, () -> x.inside(2, 1, 0, 1));
        check.due(10, "near it in", CarvedSolids.INSIDE, () -> x.inside(2000, 1000, -1, 1000));
        check.due(10, "near it out", CarvedSolids.OUTSIDE, () -> x.inside(2000, 1000, 1, 1000));
        check.due(10, "in the half-space, not in the box", CarvedSolids.OUTSIDE, () -> x.inside(-2000, 0, 0, 1));
        x.plane(-3, 2, -1, -4);
        x.convex(2);
        check.due(10, "the other side, out", CarvedSolids.OUTSIDE, () -> x.inside(2000, 1000, -1, 1000));
        check.due(10, "the other side, in", CarvedSolids.INSIDE, () -> x.inside(2000, 1000, 1, 1000));
        x.join(1);
        check.due(10, "a sheet has points on it alone", CarvedSolids.ON, () -> x.inside(2, 1, 0, 1));
        check.due(10, "and none below", CarvedSolids.OUTSIDE, () -> x.inside(2000, 1000, -1, 1000));
        check.due(10, "and none above", CarvedSolids.OUTSIDE, () -> x.inside(2000, 1000, 1, 1000));
    }

    private static void greatNumbers(Check check) {
        CarvedSolids x = new CarvedSolids();
        x.plane(1000000, 1000000, 1000000, 1000000000);
        x.plane(1000000, -999999, 1, 999999999);
        x.convex(1);
        check.due(10, "on a steep plane", CarvedSolids.ON, () -> x.inside(333333, 333333, 333334, 1000));
        check.due(10, "just beyond it", CarvedSolids.OUTSIDE, () -> x.inside(333334, 333333, 333334, 1000));
        check.due(10, "just within it", CarvedSolids.INSIDE, () -> x.inside(333333, 333333, 333333, 1000));
        x.convex(2);
        check.due(10, "on the other", CarvedSolids.ON, () -> x.inside(1000, 0, -1, 1));
        check.due(10, "just within the other", CarvedSolids.INSIDE, () -> x.inside(999, -1, -1, 1));
        check.due(10, "just beyond the other", CarvedSolids.OUTSIDE, () -> x.inside(999, -2, 2, 1));
        check.due(10, "far on the first", CarvedSolids.ON, () -> x.inside(1000000, -1000000, 1000000, 1000));
    }

    private static void refused(Check check) {
        CarvedSolids x = new CarvedSolids();
        check.thrown(10, "no solid", STATE, () -> x.inside(0, 0, 0, 1));
        check.thrown(10, "no solid and no free point", STATE, () -> x.inside(1000, 0, 0, 1));
        check.thrown(10, "no solid and no point", ARGUMENT, () -> x.inside(0, 0, 0, 0));
        x.convex(0);
        int[] wrongW = {0, -1, 1001, Integer.MIN_VALUE, Integer.MAX_VALUE};
        for (int w : wrongW) {
            check.thrown(10, "w = " + w, ARGUMENT, () -> x.inside(0, 0, 0, w));
        }
        int[] far = {1000001, -1000001, Integer.MIN_VALUE, Integer.MAX_VALUE};
        for (int n : far) {
            check.thrown(10, "x = " + n, ARGUMENT, () -> x.inside(n, 0, 0, 1000));
            check.thrown(10, "y = " + n, ARGUMENT, () -> x.inside(0, n, 0, 1000));
            check.thrown(10, "z = " + n, ARGUMENT, () -> x.inside(0, 0, n, 1000));
        }
        check.due(10, "the last w", CarvedSolids.INSIDE, () -> x.inside(1, 1, 1, 1000));
    }
}
