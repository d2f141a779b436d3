import java.util.NoSuchElementException;

/** The boundary cases that "What it is", "Terms" and promise 1 name: a test for each sentence, which stands above it. */
public final class TermsEdgeTest {
    private static final Class<IllegalArgumentException> ARGUMENT = IllegalArgumentException.class;
    private static final Class<IllegalStateException> STATE = IllegalStateException.class;
    private static final Class<IndexOutOfBoundsException> INDEX = IndexOutOfBoundsException.class;
    private static final Class<NoSuchElementException> NONE = NoSuchElementException.class;
    private static final int CALLS = 512;

    public static void main(String[] args) {
        Check check = new Check("TermsEdgeTest");
        lastOf512Calls(check);
        boxFromMinus1000To1000(check);
        sixPlanesOfTheBox(check);
        upToEightMore(check);
        samePointsAreOne(check);
        oneWithTheBox(check);
        nearlyOne(check);
        ownNumbersSayTheHalfSpace(check);
        atMostSixSolids(check);
        emptyAtFirst(check);
        topIsTheLast(check);
        numbersOfAPoint(check);
        freeOrNot(check);
        justOneOfThem(check);
        oneWithOthersIsOneHere(check);
        thereOrNot(check);
        noneGivenAtFirst(check);
        check.end();
    }

    /** "An object is used for at most 512 calls after it has been made; what later calls answer is free." */
    private static void lastOf512Calls(Check check) {
        CarvedSolids x = new CarvedSolids();
        int calls = 0;
        for (int k = 0; k < 8; k++, calls++) {
            x.plane(1, 0, 0, 100 * k);
        }
        for (; calls < CALLS - 3; calls++) {
            int there = calls % 2;
            if (there == 0) {
                check.due(4, "call " + calls + " of 512, convex", 1, () -> x.convex(255));
            } else {
                check.due(8, "call " + calls + " of 512, drop", 0, x::drop);
            }
        }
        check.due(10, "call 510", CarvedSolids.INSIDE, () -> x.inside(-1, 0, 0, 1));
        check.due(11, "call 511", 1, () -> x.side(0, 5, 5, 1));
        check.due(12, "call 512", 1, () -> x.enters(0, 5, 5));
    }

    /** "THE BOX has all points (x, y, z) with each of x, y, z from -1000 to 1000" */
    private static void boxFromMinus1000To1000(Check check) {
        CarvedSolids x = new CarvedSolids();
        x.convex(0);
        for (int axis = 0; axis < 3; axis++) {
            for (int sign = -1; sign <= 1; sign += 2) {
                String where = "axis " + axis + ", sign " + sign;
                check.due(4, "the nearest point within, " + where, CarvedSolids.INSIDE,
                        insideAlong(x, axis, sign * 999999, 1000));
                check.due(4, "the nearest point without, " + where, CarvedSolids.OUTSIDE,
                        insideAlong(x, axis, sign * 999001, 999));
                check.due(4, "the next whole one within, " + where, CarvedSolids.INSIDE,
                        insideAlong(x, axis, sign * 999, 1));
                check.due(4, "the next whole one without, " + where, CarvedSolids.OUTSIDE,
                        insideAlong(x, axis, sign * 1001, 1));
            }
        }
    }

    /** "its six PLANES are x = 1000, -x = 1000, y = 1000, -y = 1000, z = 1000, -z = 1000." */
    private static void sixPlanesOfTheBox(Check check) {
        CarvedSolids x = new CarvedSolids();
        x.convex(0);
        for (int axis = 0; axis < 3; axis++) {
            for (int sign = -1; sign <= 1; sign += 2) {
                String where = "axis " + axis + ", sign " + sign;
                check.due(10, "on the plane, " + where, CarvedSolids.ON, insideAlong(x, axis, sign * 1000, 1));
                check.due(10, "on it by thousandths, " + where, CarvedSolids.ON,
                        insideAlong(x, axis, sign * 1000000, 1000));
                check.due(11, "its half-space is within, " + where, 1, sideAlong(x, axis, sign * 1000, 1));
            }
        }
        check.due(3, "they are none of the given ones", 0, x::planes);
        check.thrown(4, "and have no bits", ARGUMENT, () -> x.convex(1));
    }

    private static Check.Call insideAlong(CarvedSolids x, int axis, int along, int w) {
        return () -> x.inside(axis == 0 ? along : 7, axis == 1 ? along : 7, axis == 2 ? along : 7, w);
    }

    private static Check.Call sideAlong(CarvedSolids x, int axis, int along, int w) {
        return () -> x.side(axis == 0 ? along : 7, axis == 1 ? along : 7, axis == 2 ? along : 7, w);
    }

    /** "Up to eight more planes can be GIVEN, a x + b y + c z = d each, with the numbers 0, 1, .. in the order" */
    private static void upToEightMore(Check check) {
        CarvedSolids x = new CarvedSolids();
        for (int k = 0; k < 8; k++) {
            int d = 10 * k;
            check.due(2, "the number of the next", k, () -> x.plane(0, 1, 0, d));
        }
        check.thrown(2, "one more than eight", STATE, () -> x.plane(0, 1, 0, 80));
        x.convex(1 << 7);
        check.due(4, "the eighth has its half-space", CarvedSolids.INSIDE, () -> x.inside(1, 69, 1, 1));
        check.due(4, "and ends there", CarvedSolids.OUTSIDE, () -> x.inside(1, 71, 1, 1));
        check.due(10, "the refused one is no plane", CarvedSolids.OUTSIDE, () -> x.inside(1, 80, 1, 1));
    }

    /** "Planes that have the same points, given ones or the box's, are ONE (their numbers may differ by a factor)" */
    private static void samePointsAreOne(Check check) {
        int[][] likes = {
            {1, 2, -3, 4}, {2, 4, -6, 8}, {-1, -2, 3, -4}, {-3, -6, 9, -12},
            {250000, 500000, -750000, 1000000}, {-333333, -666666, 999999, -1333332},
        };
        for (int[] n : likes) {
            CarvedSolids x = new CarvedSolids();
            x.plane(3, 6, -9, 12);
            x.convex(1);
            x.plane(n[0], n[1], n[2], n[3]);
            check.due(11, "one with plane(" + n[0] + ", ..)", 1, () -> x.side(4, 0, 0, 1));
            x.turn();
            check.due(11, "turned", -1, () -> x.side(4, 0, 0, 1));
            check.due(12, "and gone in there once", 1, () -> x.enters(0, 1, 1));
        }
        CarvedSolids x = new CarvedSolids();
        x.plane(0, 5, -5, 0);
        x.convex(1);
        x.plane(0, -1000000, 1000000, 0);
        check.due(11, "one through the middle", 1, () -> x.side(3, 4, 4, 1));
    }

    /** "Planes that have the same points, given ones or the box's, are ONE" */
    private static void oneWithTheBox(Check check) {
        int[] factors = {1, -1, 2, -7, 1000000, -1000000};
        for (int factor : factors) {
            for (int axis = 0; axis < 3; axis++) {
                oneWithTheBoxAt(check, axis, factor, 1000);
                oneWithTheBoxAt(check, axis, factor, -1000);
            }
        }
    }

    private static void oneWithTheBoxAt(Check check, int axis, int factor, int place) {
        CarvedSolids x = new CarvedSolids();
        x.convex(0);
        x.plane(axis == 0 ? factor : 0, axis == 1 ? factor : 0, axis == 2 ? factor : 0, place * factor);
        String where = "factor " + factor + ", axis " + axis + ", place " + place;
        check.due(11, "one with the box's, " + where, 1, sideAlong(x, axis, place, 1));
        check.due(11, "not with the one across, " + where, 1, sideAlong(x, axis, -place, 1));
        check.due(12, "the line meets it once, " + where, 1, () -> x.enters(axis, 7, 7));
    }

    /** The same sentence from without: planes that have not the same points are two, however near they are. */
    private static void nearlyOne(Check check) {
        CarvedSolids x = new CarvedSolids();
        x.convex(0);
        x.plane(1000000, 1, 0, 1000000000);
        check.thrown(11, "nearly the box's, at the common point", NONE, () -> x.side(1000, 0, 7, 1));
        check.due(11, "nearly the box's, elsewhere", 1, () -> x.side(1000, -1, 7, 1));
        check.thrown(12, "nearly the box's, on the line", NONE, () -> x.enters(0, 0, 7));
        x.plane(1000000, 1, 0, 999999999);
        check.due(12, "side by side with a millionth between", 1, () -> x.enters(0, 7, 7));
        x.drop();
        x.convex(1);
        x.convex(2);
        x.join(2);
        check.due(12, "the solid between them", 1, () -> x.enters(0, 7, 7));
        // Products of whole numbers that an int would hold as 0.
        CarvedSolids y = new CarvedSolids();
        y.plane(65536, 0, 0, 0);
        y.convex(1);
        check.due(11, "alone", 1, () -> y.side(0, 0, 7, 1));
        y.plane(1, 65536, 0, 0);
        check.thrown(11, "not one by wrapping round", NONE, () -> y.side(0, 0, 7, 1));
        check.due(10, "not on it by wrapping round", CarvedSolids.OUTSIDE, () -> y.inside(65536, 7, 7, 1000));
        check.due(10, "nor on its other side", CarvedSolids.INSIDE, () -> y.inside(-65536, 7, 7, 1000));
    }

    /** "what a given one's HALF-SPACE is, all points with a x + b y + c z <= d, its own numbers say." */
    private static void ownNumbersSayTheHalfSpace(Check check) {
        CarvedSolids x = new CarvedSolids();
        x.plane(1, 0, 0, 50);
        x.plane(-2, 0, 0, -100);
        x.plane(-1, 0, 0, -1000);
        x.plane(1, 0, 0, 1000);
        x.convex(1);
        check.due(4, "the first one's own, below", CarvedSolids.INSIDE, () -> x.inside(49, 1, 1, 1));
        check.due(4, "the first one's own, above", CarvedSolids.OUTSIDE, () -> x.inside(51, 1, 1, 1));
        x.convex(2);
        check.due(4, "the turned one's own, below", CarvedSolids.OUTSIDE, () -> x.inside(49, 1, 1, 1));
        check.due(4, "the turned one's own, above", CarvedSolids.INSIDE, () -> x.inside(51, 1, 1, 1));
        x.convex(4);
        check.due(4, "the box's plane turned leaves nothing", CarvedSolids.OUTSIDE, () -> x.inside(999, 1, 1, 1));
        check.due(4, "not even beyond it", CarvedSolids.OUTSIDE, () -> x.inside(1001, 1, 1, 1));
        x.convex(8);
        check.due(4, "the box's plane cuts nothing off", CarvedSolids.INSIDE, () -> x.inside(999, 1, 1, 1));
    }

    /** "There is a STACK of at most six solids" */
    private static void atMostSixSolids(Check check) {
        CarvedSolids x = new CarvedSolids();
        for (int there = 1; there <= 6; there++) {
            check.due(4, "solid " + there, there, () -> x.convex(0));
        }
        check.thrown(4, "convex of a seventh", STATE, () -> x.convex(0));
        check.thrown(7, "copy of a seventh", STATE, () -> x.copy(0));
        check.due(9, "six are there", 6, x::solids);
    }

    /** "empty at first" */
    private static void emptyAtFirst(Check check) {
        CarvedSolids x = new CarvedSolids();
        check.due(1, "solids() at first", 0, x::solids);
        check.thrown(1, "drop() at first", STATE, x::drop);
        check.thrown(1, "copy(0) at first", INDEX, () -> x.copy(0));
    }

    /** "the TOP one is the one put there last." */
    private static void topIsTheLast(Check check) {
        CarvedSolids x = new CarvedSolids();
        for (int k = 0; k < 6; k++) {
            x.plane(0, 0, 1, 100 * k);
        }
        for (int k = 0; k < 6; k++) {
            int edge = 100 * k;
            x.convex(1 << k);
            check.due(4, "the one put last, below " + edge, CarvedSolids.INSIDE, () -> x.inside(1, 1, edge - 1, 1));
            check.due(4, "the one put last, above " + edge, CarvedSolids.OUTSIDE, () -> x.inside(1, 1, edge + 1, 1));
        }
        for (int k = 5; k >= 0; k--) {
            int edge = 100 * k;
            check.due(8, "the next below, below " + edge, CarvedSolids.INSIDE, () -> x.inside(1, 1, edge - 1, 1));
            check.due(8, "the next below, above " + edge, CarvedSolids.OUTSIDE, () -> x.inside(1, 1, edge + 1, 1));
            x.drop();
        }
    }

    /** "it is (x / w, y / w, z / w), with w from 1 to 1000 and x, y, z from -1000000 to 1000000." */
    private static void numbersOfAPoint(Check check) {
        CarvedSolids x = new CarvedSolids();
        x.plane(1, 1, 1, 0);
        x.convex(1);
        for (int sign = -1; sign <= 1; sign += 2) {
            int most = sign * 1000000;
            check.due(10, "all of the most, w 1000", CarvedSolids.ON, () -> x.inside(most, most, most, 1000));
            check.due(10, "all of the most, w 1", CarvedSolids.OUTSIDE, () -> x.inside(most, most, most, 1));
            check.thrown(10, "x too far", ARGUMENT, () -> x.inside(most + sign(most), 0, 0, 1000));
            check.thrown(10, "y too far", ARGUMENT, () -> x.inside(0, most + sign(most), 0, 1000));
            check.thrown(10, "z too far", ARGUMENT, () -> x.inside(0, 0, most + sign(most), 1000));
            check.thrown(11, "x too far for side", ARGUMENT, () -> x.side(most + sign(most), 0, 0, 1000));
            check.thrown(11, "y too far for side", ARGUMENT, () -> x.side(0, most + sign(most), 0, 1000));
            check.thrown(11, "z too far for side", ARGUMENT, () -> x.side(0, 0, most + sign(most), 1000));
        }
        check.due(10, "the least w", CarvedSolids.INSIDE, () -> x.inside(-1, 0, 0, 1));
        check.due(10, "the most w", CarvedSolids.INSIDE, () -> x.inside(-1, 0, 0, 1000));
        check.due(11, "the least w for side", 1, () -> x.side(-1, 0, 1, 1));
        check.due(11, "the most w for side", 1, () -> x.side(-1, 0, 1, 1000));
        int[] wrong = {0, -1, 1001, -1000, Integer.MAX_VALUE, Integer.MIN_VALUE};
        for (int w : wrong) {
            check.thrown(10, "w = " + w, ARGUMENT, () -> x.inside(-1, 0, 1, w));
            check.thrown(11, "w = " + w + " for side", ARGUMENT, () -> x.side(-1, 0, 1, w));
        }
        check.due(10, "x / w alone counts", CarvedSolids.ON, () -> x.inside(500, -300, -200, 777));
    }

    private static int sign(int n) {
        return n < 0 ? -1 : 1;
    }

    /** "It is FREE when it lies on none of the planes (given ones and the box's)" */
    private static void freeOrNot(Check check) {
        CarvedSolids x = new CarvedSolids();
        x.convex(0);
        check.due(10, "free", CarvedSolids.INSIDE, () -> x.inside(3, 4, 5, 7));
        x.plane(7, 7, 7, 12);
        check.due(10, "not free any more", CarvedSolids.ON, () -> x.inside(3, 4, 5, 7));
        check.due(10, "still free", CarvedSolids.INSIDE, () -> x.inside(3, 4, 6, 7));
        check.due(10, "on the box's", CarvedSolids.ON, () -> x.inside(3, -7000, 6, 7));
        check.due(10, "free out of the box", CarvedSolids.OUTSIDE, () -> x.inside(3, -7001, 6, 7));
    }

    /** "it is ON A SIDE when it lies on just one of them." */
    private static void justOneOfThem(Check check) {
        CarvedSolids x = new CarvedSolids();
        x.plane(1, 0, 0, 0);
        x.plane(0, 1, 0, 0);
        x.plane(0, 0, 1, 0);
        x.convex(7);
        check.thrown(11, "on none", NONE, () -> x.side(-1, -1, -1, 1));
        check.due(11, "on the first alone", 1, () -> x.side(0, -1, -1, 1));
        check.due(11, "on the second alone", 1, () -> x.side(-1, 0, -1, 1));
        check.due(11, "on the third alone", 1, () -> x.side(-1, -1, 0, 1));
        check.thrown(11, "on two", NONE, () -> x.side(0, 0, -1, 1));
        check.thrown(11, "on two others", NONE, () -> x.side(-1, 0, 0, 1));
        check.thrown(11, "on three", NONE, () -> x.side(0, 0, 0, 1));
        check.thrown(11, "on one and the box's", NONE, () -> x.side(0, -1000, -1, 1));
        check.thrown(11, "on two of the box's", NONE, () -> x.side(-1000, -1000, -1, 1));
    }

    /** "A plane that is one with others is one here." */
    private static void oneWithOthersIsOneHere(Check check) {
        CarvedSolids x = new CarvedSolids();
        for (int k = 1; k <= 7; k++) {
            x.plane(k % 2 == 0 ? k : -k, 0, 0, 0);
        }
        x.convex(1);
        check.due(11, "seven that are one", 1, () -> x.side(0, 3, 4, 1));
        x.plane(0, 3, 0, 9);
        check.thrown(11, "seven that are one, and another", NONE, () -> x.side(0, 3, 4, 1));
        check.due(11, "beside the other", 1, () -> x.side(0, 2, 4, 1));
    }

    /**
     * "Near a point on a side, the solid has all points that lie on none of the planes and on one side of that
     * one, or none of them: so the solid is there on this side, or it is not."
     */
    private static void thereOrNot(Check check) {
        CarvedSolids x = new CarvedSolids();
        x.plane(1, 0, 0, 0);
        x.plane(-1, 0, 0, 0);
        x.plane(0, 1, 0, 0);
        x.convex(3);
        check.due(11, "a sheet is on neither side", 0, () -> x.side(0, 5, 5, 1));
        check.due(12, "and no line goes into it", 0, () -> x.enters(0, 5, 5));
        x.turn();
        check.due(11, "without a sheet, on both sides", 0, () -> x.side(0, 5, 5, 1));
        check.due(12, "and the line goes in once", 1, () -> x.enters(0, 5, 5));
        x.convex(1);
        x.join(0);
        check.due(12, "nor does a joined one part it", 1, () -> x.enters(0, 5, 5));
        x.convex(1);
        x.convex(2);
        x.join(2);
        check.due(11, "one side without its rim", 1, () -> x.side(0, 5, 5, 1));
        check.due(12, "is gone into at the box", 1, () -> x.enters(0, 5, 5));
        x.convex(4);
        x.join(3);
        check.due(11, "told by the point's own place", 1, () -> x.side(0, 5, 5, 1));
        check.due(11, "told otherwise beyond the plane across", -1, () -> x.side(0, -5, 5, 1));
    }

    /** "No planes are given; the stack is empty." */
    private static void noneGivenAtFirst(Check check) {
        CarvedSolids old = new CarvedSolids();
        old.plane(1, 0, 0, 0);
        old.convex(1);
        CarvedSolids x = new CarvedSolids();
        check.due(1, "planes() of a new one beside an old one", 0, x::planes);
        check.due(1, "solids() of a new one beside an old one", 0, x::solids);
        check.thrown(1, "convex(1) of a new one", ARGUMENT, () -> x.convex(1));
        check.due(1, "the first number is 0", 0, () -> x.plane(0, 1, 0, 0));
        check.due(1, "the first solid is one", 1, () -> x.convex(1));
        check.due(1, "nothing of the old one's planes", CarvedSolids.INSIDE, () -> x.inside(0, -1, 0, 1));
    }
}
