import java.util.NoSuchElementException;

/** The boundary cases that promises 10 to 12 name: a test for each sentence, which stands above it. */
public final class PointEdgeTest {
    private static final Class<IllegalArgumentException> ARGUMENT = IllegalArgumentException.class;
    private static final Class<IllegalStateException> STATE = IllegalStateException.class;
    private static final Class<NoSuchElementException> NONE = NoSuchElementException.class;
    private static final int LEAST = Integer.MIN_VALUE;
    private static final int GREATEST = Integer.MAX_VALUE;

    public static void main(String[] args) {
        Check check = new Check("PointEdgeTest");
        onWhenNotFree(check);
        insideOrOutside(check);
        alsoWhenNotInTheBox(check);
        insideNoPoint(check);
        insideNoSolid(check);
        numbersOfTheBoxsPlane(check);
        numbersOfTheFirstGiven(check);
        lessOrMore(check);
        onBothSidesOrNone(check);
        soOutOfTheBox(check);
        sideNoPoint(check);
        sideNoSolid(check);
        sideNotOnASide(check);
        entersFromWithout(check);
        entersFromOutOfTheBox(check);
        entersOrderOfUAndV(check);
        entersAxisOutOfRange(check);
        entersPlaceOutOfRange(check);
        entersNoSolid(check);
        entersTwoPlanesInTheBox(check);
        entersTwoPlanesAtTheBoxsEnd(check);
        entersTwoPlanesBeyondTheBox(check);
        entersPlanesThatAreOne(check);
        entersInAPlane(check);
        check.end();
    }

    private static CarvedSolids box() {
        CarvedSolids x = new CarvedSolids();
        x.convex(0);
        return x;
    }

    private static int across(int axis, int here, int n) {
        return axis == here ? n : 0;
    }

    /** "ON when a point is not free (in the box or out of it)" */
    private static void onWhenNotFree(Check check) {
        CarvedSolids x = box();
        x.plane(1, 1, 1, 6);
        x.plane(0, 0, 1, 3000);
        for (int turns = 0; turns < 2; turns++) {
            check.due(10, "on a given one", CarvedSolids.ON, () -> x.inside(1, 2, 3, 1));
            check.due(10, "on a given one by thousandths", CarvedSolids.ON, () -> x.inside(1, 2, 5997, 1000));
            check.due(10, "on a given one out of the box", CarvedSolids.ON, () -> x.inside(2000, 6, -2000, 1));
            check.due(10, "on one that is out of the box", CarvedSolids.ON, () -> x.inside(5, 5, 3000, 1));
            check.due(10, "on the box's", CarvedSolids.ON, () -> x.inside(1000, 2, 3, 1));
            check.due(10, "on the box's, out of the box", CarvedSolids.ON, () -> x.inside(1000, 2, 1000000, 1));
            check.due(10, "on the box's, far out of it", CarvedSolids.ON, () -> x.inside(-999000, 7, -1000000, 999));
            check.due(10, "on two", CarvedSolids.ON, () -> x.inside(1000, -1000, 7, 1));
            check.due(10, "on three", CarvedSolids.ON, () -> x.inside(1000, -1000, 6, 1));
            x.turn();
        }
    }

    /** "otherwise INSIDE when it is in the top solid, OUTSIDE when not" */
    private static void insideOrOutside(Check check) {
        CarvedSolids x = new CarvedSolids();
        x.plane(999999, 1000000, -1000000, 1000000000);
        x.convex(1);
        check.due(10, "on the plane", CarvedSolids.ON, () -> x.inside(0, 1000000, 0, 1000));
        check.due(10, "on the plane within the box", CarvedSolids.ON, () -> x.inside(0, 500, -500, 1));
        check.due(10, "a thousandth within", CarvedSolids.INSIDE, () -> x.inside(0, 500000, -499999, 1000));
        check.due(10, "a thousandth beyond", CarvedSolids.OUTSIDE, () -> x.inside(0, 500000, -500001, 1000));
        check.due(10, "less than a millionth within", CarvedSolids.INSIDE, () -> x.inside(1, 499999, -500000, 1000));
        check.due(10, "less than a millionth beyond", CarvedSolids.OUTSIDE,
                () -> x.inside(-1, 500001, -500000, 1000));
        x.turn();
        check.due(10, "turned, within", CarvedSolids.OUTSIDE, () -> x.inside(0, 500000, -499999, 1000));
        check.due(10, "turned, beyond", CarvedSolids.INSIDE, () -> x.inside(0, 500000, -500001, 1000));
        x.convex(0);
        check.due(10, "the top one alone counts", CarvedSolids.INSIDE, () -> x.inside(0, 500000, -499999, 1000));
    }

    /** "(also when it is not in the box)" */
    private static void alsoWhenNotInTheBox(Check check) {
        for (int axis = 0; axis < 3; axis++) {
            int[] beyond = {1001, -1001, 1000000, -1000000};
            for (int n : beyond) {
                int px = across(axis, 0, n);
                int py = across(axis, 1, n);
                int pz = across(axis, 2, n);
                CarvedSolids x = box();
                check.due(10, n + " on axis " + axis, CarvedSolids.OUTSIDE, () -> x.inside(px, py, pz, 1));
                x.turn();
                check.due(10, n + " on axis " + axis + ", turned", CarvedSolids.OUTSIDE,
                        () -> x.inside(px, py, pz, 1));
                x.plane(1, 1, 1, 1000000000);
                x.convex(1);
                check.due(10, n + " on axis " + axis + ", in the half-space", CarvedSolids.OUTSIDE,
                        () -> x.inside(px, py, pz, 1));
            }
        }
    }

    /** "IllegalArgumentException when the numbers are none of a point" (promise 10) */
    private static void insideNoPoint(Check check) {
        CarvedSolids x = box();
        int[] wrong = {1000001, -1000001, GREATEST, LEAST};
        for (int n : wrong) {
            check.thrown(10, "x = " + n, ARGUMENT, () -> x.inside(n, 0, 0, 1));
            check.thrown(10, "y = " + n, ARGUMENT, () -> x.inside(0, n, 0, 1));
            check.thrown(10, "z = " + n, ARGUMENT, () -> x.inside(0, 0, n, 1));
        }
        int[] wrongW = {0, -1, 1001, GREATEST, LEAST};
        for (int w : wrongW) {
            check.thrown(10, "w = " + w, ARGUMENT, () -> x.inside(0, 0, 0, w));
        }
        check.thrown(10, "x too far and no solid", ARGUMENT, () -> new CarvedSolids().inside(1000001, 0, 0, 1));
    }

    /** "IllegalStateException when there is no solid." (promise 10) */
    private static void insideNoSolid(Check check) {
        CarvedSolids x = new CarvedSolids();
        check.thrown(10, "none yet", STATE, () -> x.inside(0, 0, 0, 1));
        check.thrown(10, "none yet, on the box's plane", STATE, () -> x.inside(1000, 0, 0, 1));
        check.thrown(10, "none yet, out of the box", STATE, () -> x.inside(1001, 0, 0, 1));
        x.convex(0);
        check.due(10, "one", CarvedSolids.INSIDE, () -> x.inside(0, 0, 0, 1));
        x.drop();
        check.thrown(10, "none any more", STATE, () -> x.inside(0, 0, 0, 1));
    }

    /** "let a x + b y + c z = d be that plane, with the numbers of the box's plane when it is one of these" */
    private static void numbersOfTheBoxsPlane(Check check) {
        for (int axis = 0; axis < 3; axis++) {
            for (int place = -1000; place <= 1000; place += 2000) {
                for (int factor = -2; factor <= 2; factor++) {
                    CarvedSolids x = box();
                    if (factor != 0) {
                        x.plane(across(axis, 0, factor), across(axis, 1, factor), across(axis, 2, factor),
                                factor * place);
                    }
                    int px = across(axis, 0, place);
                    int py = across(axis, 1, place);
                    int pz = across(axis, 2, place);
                    check.due(11, "axis " + axis + " at " + place + ", given with " + factor, 1,
                            () -> x.side(px, py, pz, 1));
                }
            }
        }
    }

    /** "otherwise with those of the given one that came first." */
    private static void numbersOfTheFirstGiven(Check check) {
        CarvedSolids x = new CarvedSolids();
        x.plane(0, 0, 1, -300);
        x.plane(-1, 2, 0, 5);
        x.plane(1, -2, 0, -5);
        x.plane(-3, 6, 0, 15);
        x.convex(2);
        check.due(11, "its own half-space", 1, () -> x.side(-5, 0, 0, 1));
        x.convex(4);
        check.due(11, "the turned one's, with the first one's numbers", -1, () -> x.side(-5, 0, 0, 1));
        x.convex(8);
        check.due(11, "the third one's, with the first one's numbers", 1, () -> x.side(-5, 0, 0, 1));
        CarvedSolids y = new CarvedSolids();
        y.plane(1, -2, 0, -5);
        y.plane(-1, 2, 0, 5);
        y.convex(2);
        check.due(11, "given the other way round", -1, () -> y.side(-5, 0, 0, 1));
        for (int axis = 0; axis < 3; axis++) {
            CarvedSolids turned = new CarvedSolids();
            turned.plane(across(axis, 0, -2), across(axis, 1, -2), across(axis, 2, -2), 0);
            turned.plane(across(axis, 0, 3), across(axis, 1, 3), across(axis, 2, 3), 0);
            turned.convex(2);
            check.due(11, "turned on axis " + axis, -1, () -> turned.side(0, 0, 0, 1));
        }
    }

    /** "1 when the solid is there where a x + b y + c z is less than d and not where it is more; -1 when [..] round" */
    private static void lessOrMore(Check check) {
        int[][] planes = {{1, 0, 0, 0}, {-1, 0, 0, 0}, {0, 1, 0, 0}, {0, -1, 0, 0}, {0, 0, 1, 0}, {0, 0, -1, 0},
            {1000000, -1000000, 1000000, 0}, {-1000000, 999999, 1, 0}};
        for (int[] n : planes) {
            CarvedSolids x = new CarvedSolids();
            x.plane(n[0], n[1], n[2], n[3]);
            x.convex(1);
            String which = "plane " + n[0] + " " + n[1] + " " + n[2];
            check.due(11, which + ", where it is less", 1, () -> x.side(0, 0, 0, 1000));
            x.turn();
            check.due(11, which + ", where it is more", -1, () -> x.side(0, 0, 0, 1000));
        }
    }

    /** "0 when it is there on both sides, or on none" */
    private static void onBothSidesOrNone(Check check) {
        CarvedSolids x = new CarvedSolids();
        x.plane(1, 0, 0, 0);
        x.plane(-1, 0, 0, 0);
        x.convex(0);
        check.due(11, "the box on both", 0, () -> x.side(0, 1, 1, 1));
        x.turn();
        check.due(11, "nothing on none", 0, () -> x.side(0, 1, 1, 1));
        check.due(11, "nothing at the box's plane", 0, () -> x.side(1000, 1, 1, 1));
        x.convex(1);
        x.convex(2);
        x.join(0);
        check.due(11, "both halves on both", 0, () -> x.side(0, 1, 1, 1));
        x.convex(3);
        check.due(11, "their common sheet on none", 0, () -> x.side(0, 1, 1, 1));
        x.join(2);
        check.due(11, "both halves without it on both", 0, () -> x.side(0, 1, 1, 1));
    }

    /** "(so out of the box)" */
    private static void soOutOfTheBox(Check check) {
        CarvedSolids x = new CarvedSolids();
        x.plane(1, 0, 0, 0);
        x.plane(1, 0, 0, 1001);
        x.convex(1);
        for (int turns = 0; turns < 2; turns++) {
            check.due(11, "a given one just out of the box", 0, () -> x.side(0, 999001, 7, 999));
            check.due(11, "a given one just below the box", 0, () -> x.side(0, 7, -999001, 999));
            check.due(11, "a given one far out of the box", 0, () -> x.side(0, 1000000, -1000000, 1));
            check.due(11, "one that never comes into the box", 0, () -> x.side(1001, 7, 7, 1));
            check.due(11, "the box's just out of the box", 0, () -> x.side(-7, 999000, -999001, 999));
            check.due(11, "the box's far out of the box", 0, () -> x.side(1000, 7, 1000000, 1));
            x.turn();
        }
        check.due(11, "the given one just in the box", 1, () -> x.side(0, 999999, 7000, 1000));
        check.due(11, "the box's just in the box", 1, () -> x.side(-7000, 1000000, -999999, 1000));
    }

    /** "IllegalArgumentException when the numbers are none of a point" (promise 11) */
    private static void sideNoPoint(Check check) {
        CarvedSolids x = box();
        int[] wrong = {1000001, -1000001, GREATEST, LEAST};
        for (int n : wrong) {
            check.thrown(11, "x = " + n, ARGUMENT, () -> x.side(n, 1000, 0, 1));
            check.thrown(11, "y = " + n, ARGUMENT, () -> x.side(1000, n, 0, 1));
            check.thrown(11, "z = " + n, ARGUMENT, () -> x.side(1000, 0, n, 1));
        }
        int[] wrongW = {0, -1, 1001, GREATEST, LEAST};
        for (int w : wrongW) {
            check.thrown(11, "w = " + w, ARGUMENT, () -> x.side(1000, 0, 0, w));
        }
        check.thrown(11, "w = 0 and no solid", ARGUMENT, () -> new CarvedSolids().side(1000, 0, 0, 0));
    }

    /** "IllegalStateException when there is no solid" (promise 11) */
    private static void sideNoSolid(Check check) {
        CarvedSolids x = new CarvedSolids();
        check.thrown(11, "none yet", STATE, () -> x.side(1000, 0, 0, 1));
        check.thrown(11, "none yet, a free point", STATE, () -> x.side(0, 0, 0, 1));
        check.thrown(11, "none yet, an edge", STATE, () -> x.side(1000, 1000, 0, 1));
        x.convex(0);
        check.due(11, "one", 1, () -> x.side(1000, 0, 0, 1));
        x.drop();
        check.thrown(11, "none any more", STATE, () -> x.side(1000, 0, 0, 1));
    }

    /** "NoSuchElementException when the point is not on a side." */
    private static void sideNotOnASide(Check check) {
        CarvedSolids x = box();
        for (int turns = 0; turns < 2; turns++) {
            check.thrown(11, "a free point", NONE, () -> x.side(1, 2, 3, 1));
            check.thrown(11, "nearly on the box's", NONE, () -> x.side(999999, 2, 3, 1000));
            check.thrown(11, "a free point out of the box", NONE, () -> x.side(1000000, -1000000, 3, 1));
            check.thrown(11, "an edge", NONE, () -> x.side(1000, 2, -1000, 1));
            check.thrown(11, "an edge's line out of the box", NONE, () -> x.side(1000, 2000, -1000, 1));
            check.thrown(11, "a corner", NONE, () -> x.side(-1000, 1000, -1000, 1));
            x.turn();
        }
        x.plane(1, 1, 0, 1000);
        check.thrown(11, "a given one and the box's", NONE, () -> x.side(1000, 0, 3, 1));
        check.thrown(11, "a given one and the box's out of the box", NONE, () -> x.side(1000, 0, 3000, 1));
        check.due(11, "the given one alone", 0, () -> x.side(999, 1, 3, 1));
        check.due(11, "the box's alone", 1, () -> x.side(1000, 1, 3, 1));
    }

    /** "How often a line goes from without (also from out of the box) into the top solid" */
    private static void entersFromWithout(Check check) {
        CarvedSolids x = new CarvedSolids();
        for (int k = 0; k < 8; k++) {
            x.plane(0, 0, k % 2 == 0 ? 1 : -1, k % 2 == 0 ? 100 * k - 350 : 350 - 100 * k);
        }
        x.convex(0);
        x.turn();
        check.due(12, "the least: nothing", 0, () -> x.enters(2, 5, 5));
        for (int k = 0; k < 8; k++) {
            x.convex(1 << k);
            x.join(3);
        }
        // Nine slices that are there by turns, the lowest among them or not.
        check.due(12, "four of nine slices", 4, () -> x.enters(2, 5, 5));
        check.due(12, "none within a slice that is not", 0, () -> x.enters(0, 5, -400));
        check.due(12, "one within a slice that is", 1, () -> x.enters(0, 5, -300));
        x.turn();
        check.due(12, "the most: five of nine slices", 5, () -> x.enters(2, 5, 5));
        x.convex(0);
        check.due(12, "the top one alone counts", 1, () -> x.enters(2, 5, 5));
    }

    /** "(also from out of the box)" */
    private static void entersFromOutOfTheBox(Check check) {
        for (int axis = 0; axis < 3; axis++) {
            int along = axis;
            CarvedSolids x = box();
            x.plane(across(axis, 0, 1), across(axis, 1, 1), across(axis, 2, 1), 0);
            check.due(12, "the whole box on axis " + axis, 1, () -> x.enters(along, 5, 5));
            x.convex(1);
            check.due(12, "the lower half on axis " + axis, 1, () -> x.enters(along, 5, 5));
            x.turn();
            check.due(12, "the upper half on axis " + axis, 1, () -> x.enters(along, 5, 5));
        }
    }

    /** "whose coordinate number axis (0: x, 1: y, 2: z) is anything, and whose other two, in the order x, y, z" */
    private static void entersOrderOfUAndV(Check check) {
        int[][] rods = {{1, 2}, {0, 2}, {0, 1}};
        for (int axis = 0; axis < 3; axis++) {
            CarvedSolids x = new CarvedSolids();
            int first = rods[axis][0];
            int second = rods[axis][1];
            x.plane(across(first, 0, 1), across(first, 1, 1), across(first, 2, 1), 10);
            x.plane(across(second, 0, 1), across(second, 1, 1), across(second, 2, 1), -10);
            x.convex(3);
            int along = axis;
            check.due(12, "u and v in order, axis " + axis, 1, () -> x.enters(along, 9, -11));
            check.due(12, "u too great, axis " + axis, 0, () -> x.enters(along, 11, -11));
            check.due(12, "v too great, axis " + axis, 0, () -> x.enters(along, 9, -9));
            check.due(12, "exchanged, axis " + axis, 0, () -> x.enters(along, -11, 9));
        }
    }

    /** "IllegalArgumentException when axis is not 0 .. 2" */
    private static void entersAxisOutOfRange(Check check) {
        CarvedSolids x = box();
        int[] wrong = {-1, 3, 4, -3, GREATEST, LEAST};
        for (int axis : wrong) {
            check.thrown(12, "axis " + axis, ARGUMENT, () -> x.enters(axis, 5, 5));
            check.thrown(12, "axis " + axis + " and no solid", ARGUMENT, () -> new CarvedSolids().enters(axis, 5, 5));
        }
        for (int axis = 0; axis < 3; axis++) {
            int along = axis;
            check.due(12, "axis " + axis, 1, () -> x.enters(along, 5, 5));
        }
    }

    /** "or u or v not -999 .. 999" */
    private static void entersPlaceOutOfRange(Check check) {
        CarvedSolids x = box();
        int[] wrong = {1000, -1000, 1001, -1001, GREATEST, LEAST};
        int[] right = {999, -999};
        for (int axis = 0; axis < 3; axis++) {
            int along = axis;
            for (int n : wrong) {
                check.thrown(12, "u = " + n + " on axis " + axis, ARGUMENT, () -> x.enters(along, n, 5));
                check.thrown(12, "v = " + n + " on axis " + axis, ARGUMENT, () -> x.enters(along, 5, n));
                check.thrown(12, "u = v = " + n, ARGUMENT, () -> x.enters(along, n, n));
            }
            for (int n : right) {
                check.due(12, "u = " + n + " on axis " + axis, 1, () -> x.enters(along, n, 5));
                check.due(12, "v = " + n + " on axis " + axis, 1, () -> x.enters(along, 5, n));
                check.due(12, "u = v = " + n, 1, () -> x.enters(along, n, n));
            }
        }
        check.thrown(12, "u too great and no solid", ARGUMENT, () -> new CarvedSolids().enters(0, 1000, 5));
    }

    /** "IllegalStateException when there is no solid" (promise 12) */
    private static void entersNoSolid(Check check) {
        CarvedSolids x = new CarvedSolids();
        x.plane(0, 1, 0, 5);
        x.plane(1, 1, 0, 1000);
        check.thrown(12, "none yet", STATE, () -> x.enters(0, 7, 7));
        check.thrown(12, "none yet, in a plane", STATE, () -> x.enters(0, 5, 7));
        check.thrown(12, "none yet, through two planes", STATE, () -> x.enters(0, 0, 7));
        x.convex(0);
        check.due(12, "one", 1, () -> x.enters(0, 7, 7));
        x.drop();
        check.thrown(12, "none any more", STATE, () -> x.enters(0, 7, 7));
    }

    /** "NoSuchElementException when the line has a point in the box that lies on two of the planes or more" */
    private static void entersTwoPlanesInTheBox(Check check) {
        CarvedSolids x = box();
        x.plane(1, 2, 0, 20);
        x.plane(1, 0, 3, 30);
        check.thrown(12, "two given ones", NONE, () -> x.enters(0, 1, 4));
        check.thrown(12, "two given ones elsewhere", NONE, () -> x.enters(0, 4, 6));
        check.due(12, "two given ones apart", 1, () -> x.enters(0, 1, 5));
        x.turn();
        check.thrown(12, "also where no solid is", NONE, () -> x.enters(0, 4, 6));
        x.plane(1, 1, 1, 23);
        check.thrown(12, "three", NONE, () -> x.enters(0, 1, 4));
        CarvedSolids thirds = box();
        thirds.plane(3, 1, 0, 2);
        thirds.plane(6, 0, -1, -3);
        check.thrown(12, "two at a third", NONE, () -> thirds.enters(0, 1, 5));
        check.due(12, "at a third and at a half", 1, () -> thirds.enters(0, 1, 6));
    }

    /** The same sentence where the box ends: its planes are in it. */
    private static void entersTwoPlanesAtTheBoxsEnd(Check check) {
        for (int axis = 0; axis < 3; axis++) {
            for (int place = -1000; place <= 1000; place += 2000) {
                CarvedSolids x = box();
                int other = axis == 0 ? 1 : 0;
                x.plane(axis == 0 || other == 0 ? 1 : 0, axis == 1 || other == 1 ? 1 : 0, axis == 2 ? 1 : 0, place);
                int along = axis;
                String where = "axis " + axis + " at " + place;
                check.thrown(12, "a given one and the box's, " + where, NONE, () -> x.enters(along, 0, 7));
                check.due(12, "one beside, " + where, 1, () -> x.enters(along, 1, 7));
                check.due(12, "one beside the other way, " + where, 1, () -> x.enters(along, -1, 7));
            }
        }
        CarvedSolids x = box();
        x.plane(1000000, 1, 0, 1000000000);
        x.plane(1000000, -1, 0, 999999998);
        check.thrown(12, "two given ones a millionth within the box", NONE, () -> x.enters(0, 1, 7));
        check.thrown(12, "one of them at the box's end", NONE, () -> x.enters(0, 2, 7));
        check.due(12, "one of them beyond it", 1, () -> x.enters(0, 3, 7));
    }

    /** The same sentence beyond the box: points that are not in it do not count. */
    private static void entersTwoPlanesBeyondTheBox(Check check) {
        CarvedSolids x = box();
        x.plane(1000000, -1, 0, 1000000000);
        x.plane(1000000, -2, 0, 999999999);
        check.due(12, "two given ones a millionth beyond the box", 1, () -> x.enters(0, 1, 7));
        check.thrown(12, "at the box's end", NONE, () -> x.enters(0, 0, 7));
        CarvedSolids y = box();
        y.plane(-1000000, -1, 0, 1000000000);
        y.plane(-1000000, -2, 0, 999999999);
        check.due(12, "a millionth below the box", 1, () -> y.enters(0, 1, 7));
        CarvedSolids far = box();
        far.plane(1, 1000000, 0, 1000000000);
        far.plane(1, 0, 1000000, 1000000000);
        check.due(12, "far beyond the box", 1, () -> far.enters(0, -999, -999));
        far.plane(-1, 1000000, 0, 1000000000);
        far.plane(-1, 0, 1000000, 1000000000);
        check.due(12, "far below the box", 1, () -> far.enters(0, 7, 7));
    }

    /** The same sentence for planes that are one: they are not two. */
    private static void entersPlanesThatAreOne(Check check) {
        CarvedSolids x = new CarvedSolids();
        x.plane(2, 4, 6, 8);
        x.plane(-1, -2, -3, -4);
        x.plane(1, 0, 0, 1000);
        x.plane(1, 0, 0, -1000);
        x.convex(1);
        check.due(12, "below", 1, () -> x.enters(0, 5, 7));
        x.convex(2);
        check.due(12, "above", 1, () -> x.enters(0, 5, 7));
        x.join(3);
        check.due(12, "on both sides", 1, () -> x.enters(0, 5, 7));
        x.turn();
        check.due(12, "their common sheet", 0, () -> x.enters(0, 5, 7));
    }

    /** "or lies in one of them." */
    private static void entersInAPlane(Check check) {
        int[] places = {-999, 0, 999};
        for (int axis = 0; axis < 3; axis++) {
            int along = axis;
            for (int place : places) {
                CarvedSolids x = box();
                int first = axis == 0 ? 1 : 0;
                int second = axis == 2 ? 1 : 2;
                x.plane(across(first, 0, -3), across(first, 1, -3), across(first, 2, -3), -3 * place);
                x.plane(across(second, 0, 1), across(second, 1, 1), across(second, 2, 1), 500);
                String where = "axis " + axis + " at " + place;
                check.thrown(12, "in the first, " + where, NONE, () -> x.enters(along, place, 7));
                check.thrown(12, "in the second, " + where, NONE, () -> x.enters(along, 7, 500));
                check.thrown(12, "in both, " + where, NONE, () -> x.enters(along, place, 500));
                check.due(12, "beside both, " + where, 1, () -> x.enters(along, 7, 499));
                x.turn();
                check.thrown(12, "also where no solid is, " + where, NONE, () -> x.enters(along, place, 7));
            }
        }
        CarvedSolids x = box();
        x.plane(0, 1000000, -999999, 999999500);
        check.thrown(12, "in a slanted one", NONE, () -> x.enters(0, 500, -500));
        check.due(12, "beside a slanted one", 1, () -> x.enters(0, 500, -499));
        check.due(12, "across a slanted one", 1, () -> x.enters(1, 500, -500));
    }
}
