import java.util.NoSuchElementException;

/**
 * Where several exceptions fit a call, the one that its promise names first is thrown: every pair that can fit
 * at once, and all three of a call at once.
 */
public final class OrderTest {
    private static final Class<IllegalArgumentException> ARGUMENT = IllegalArgumentException.class;
    private static final Class<IllegalStateException> STATE = IllegalStateException.class;
    private static final Class<IndexOutOfBoundsException> INDEX = IndexOutOfBoundsException.class;
    private static final Class<NoSuchElementException> NONE = NoSuchElementException.class;

    public static void main(String[] args) {
        Check check = new Check("OrderTest");
        planeWithEightGiven(check);
        convexWithSixSolids(check);
        joinWithoutTwo(check);
        copyWithSixSolids(check);
        insideWithoutASolid(check);
        sideWithoutASolid(check);
        entersWithoutASolid(check);
        lastOnesAlone(check);
        check.end();
    }

    private static void planeWithEightGiven(Check check) {
        CarvedSolids x = new CarvedSolids();
        for (int k = 0; k < 8; k++) {
            x.plane(1, 0, 0, k);
        }
        check.thrown(2, "all 0 and eight given", ARGUMENT, () -> x.plane(0, 0, 0, 1));
        check.thrown(2, "a too far and eight given", ARGUMENT, () -> x.plane(1000001, 0, 0, 1));
        check.thrown(2, "b too far and eight given", ARGUMENT, () -> x.plane(0, -1000001, 0, 1));
        check.thrown(2, "c too far and eight given", ARGUMENT, () -> x.plane(0, 0, 1000001, 1));
        check.thrown(2, "d too far and eight given", ARGUMENT, () -> x.plane(0, 0, 1, -1000000001));
        check.thrown(2, "eight given alone", STATE, () -> x.plane(0, 0, 1, 1));
    }

    private static void convexWithSixSolids(Check check) {
        CarvedSolids x = new CarvedSolids();
        x.plane(1, 0, 0, 0);
        for (int there = 0; there < 6; there++) {
            x.convex(1);
        }
        check.thrown(4, "less than 0 and six solids", ARGUMENT, () -> x.convex(-1));
        check.thrown(4, "a bit too many and six solids", ARGUMENT, () -> x.convex(2));
        check.thrown(4, "six solids alone", STATE, () -> x.convex(1));
    }

    private static void joinWithoutTwo(Check check) {
        CarvedSolids x = new CarvedSolids();
        for (int there = 0; there < 2; there++) {
            check.thrown(5, "how 4 and " + there + " solids", ARGUMENT, () -> x.join(4));
            check.thrown(5, "how -1 and " + there + " solids", ARGUMENT, () -> x.join(-1));
            check.thrown(5, there + " solids alone", STATE, () -> x.join(0));
            x.convex(0);
        }
    }

    private static void copyWithSixSolids(Check check) {
        CarvedSolids x = new CarvedSolids();
        for (int there = 0; there < 6; there++) {
            x.convex(0);
        }
        check.thrown(7, "no such one and six solids", INDEX, () -> x.copy(6));
        check.thrown(7, "less than 0 and six solids", INDEX, () -> x.copy(-1));
        check.thrown(7, "six solids alone", STATE, () -> x.copy(5));
    }

    private static void insideWithoutASolid(Check check) {
        CarvedSolids x = new CarvedSolids();
        check.thrown(10, "w 0 and no solid", ARGUMENT, () -> x.inside(0, 0, 0, 0));
        check.thrown(10, "x too far and no solid", ARGUMENT, () -> x.inside(1000001, 0, 0, 1));
        check.thrown(10, "no solid alone", STATE, () -> x.inside(0, 0, 0, 1));
        check.thrown(10, "no solid, on a plane", STATE, () -> x.inside(1000, 0, 0, 1));
    }

    private static void sideWithoutASolid(Check check) {
        CarvedSolids x = new CarvedSolids();
        check.thrown(11, "no point, no solid, on no plane", ARGUMENT, () -> x.side(1, 1, 1, 1001));
        check.thrown(11, "no point, no solid, on a side", ARGUMENT, () -> x.side(1001000, 0, 0, 1001));
        check.thrown(11, "no solid, on no plane", STATE, () -> x.side(1, 1, 1, 1));
        check.thrown(11, "no solid, on two planes", STATE, () -> x.side(1000, 1000, 1, 1));
        x.convex(0);
        check.thrown(11, "no point, on no plane", ARGUMENT, () -> x.side(1, 1, -1000001, 1));
    }

    private static void entersWithoutASolid(Check check) {
        CarvedSolids x = new CarvedSolids();
        x.plane(0, 1, 0, 7);
        x.plane(0, 1, 1, 7);
        check.thrown(12, "no axis, no solid, in a plane", ARGUMENT, () -> x.enters(3, 7, 0));
        check.thrown(12, "v too far, no solid, in a plane", ARGUMENT, () -> x.enters(0, 7, 1000));
        check.thrown(12, "no solid, in a plane", STATE, () -> x.enters(0, 7, 1));
        check.thrown(12, "no solid, on two planes", STATE, () -> x.enters(1, 1, 0));
        x.convex(0);
        check.thrown(12, "v too far, in a plane", ARGUMENT, () -> x.enters(0, 7, -1000));
    }

    private static void lastOnesAlone(Check check) {
        CarvedSolids x = new CarvedSolids();
        x.plane(0, 1, 0, 7);
        x.convex(0);
        check.thrown(11, "on no plane alone", NONE, () -> x.side(1, 1, 1, 1));
        check.thrown(12, "in a plane alone", NONE, () -> x.enters(0, 7, 1));
    }
}
