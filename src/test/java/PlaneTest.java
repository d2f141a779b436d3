/** Promises 1, 2 and 3: a new object has no planes; planes get numbers, are refused, and are counted. */
public final class PlaneTest {
    private static final Class<IllegalArgumentException> ARGUMENT = IllegalArgumentException.class;
    private static final Class<IllegalStateException> STATE = IllegalStateException.class;

    public static void main(String[] args) {
        Check check = new Check("PlaneTest");
        newObject(check);
        numbersInOrder(check);
        wrongNumbers(check);
        extremesAreTaken(check);
        eightAreMost(check);
        solidsStay(check);
        objectsAreApart(check);
        check.end();
    }

    private static void newObject(Check check) {
        CarvedSolids x = new CarvedSolids();
        check.due(1, "planes() of a new object", 0, x::planes);
        check.due(1, "solids() of a new object", 0, x::solids);
        check.thrown(1, "inside on the empty stack", STATE, () -> x.inside(0, 0, 0, 1));
        check.thrown(1, "convex(1) without planes", ARGUMENT, () -> x.convex(1));
    }

    private static void numbersInOrder(Check check) {
        CarvedSolids x = new CarvedSolids();
        check.due(2, "first plane", 0, () -> x.plane(1, 2, 3, 4));
        check.due(3, "planes() after one", 1, x::planes);
        check.due(2, "the same plane again", 1, () -> x.plane(1, 2, 3, 4));
        check.due(2, "the same plane turned round", 2, () -> x.plane(-2, -4, -6, -8));
        check.due(2, "one of the box's planes", 3, () -> x.plane(0, 0, 1, 1000));
        check.due(3, "planes() counts also those that are one", 4, x::planes);
        check.due(3, "planes() changes nothing", 4, x::planes);
    }

    private static void wrongNumbers(Check check) {
        CarvedSolids x = new CarvedSolids();
        check.thrown(2, "all 0", ARGUMENT, () -> x.plane(0, 0, 0, 0));
        check.thrown(2, "all 0 with d", ARGUMENT, () -> x.plane(0, 0, 0, 5));
        int[] far = {1000001, -1000001, Integer.MAX_VALUE, Integer.MIN_VALUE};
        for (int n : far) {
            check.thrown(2, "a = " + n, ARGUMENT, () -> x.plane(n, 1, 1, 0));
            check.thrown(2, "b = " + n, ARGUMENT, () -> x.plane(1, n, 1, 0));
            check.thrown(2, "c = " + n, ARGUMENT, () -> x.plane(1, 1, n, 0));
        }
        int[] farAway = {1000000001, -1000000001, Integer.MAX_VALUE, Integer.MIN_VALUE};
        for (int n : farAway) {
            check.thrown(2, "d = " + n, ARGUMENT, () -> x.plane(1, 0, 0, n));
        }
        check.due(3, "planes() after refused ones", 0, x::planes);
        check.due(2, "the first that is taken", 0, () -> x.plane(0, 0, 1, 0));
    }

    private static void extremesAreTaken(Check check) {
        CarvedSolids x = new CarvedSolids();
        check.due(2, "most of all", 0, () -> x.plane(1000000, 1000000, 1000000, 1000000000));
        check.due(2, "least of all", 1, () -> x.plane(-1000000, -1000000, -1000000, -1000000000));
        check.due(2, "a alone", 2, () -> x.plane(1, 0, 0, 0));
        check.due(2, "b alone", 3, () -> x.plane(0, -1, 0, 0));
        check.due(2, "c alone", 4, () -> x.plane(0, 0, 1, 0));
        check.due(3, "planes() after them", 5, x::planes);
    }

    private static void eightAreMost(Check check) {
        CarvedSolids x = new CarvedSolids();
        for (int i = 0; i < 8; i++) {
            int number = i;
            check.due(2, "plane " + i, number, () -> x.plane(1, 0, 0, 7));
        }
        check.thrown(2, "a ninth", STATE, () -> x.plane(0, 1, 0, 7));
        check.thrown(2, "a ninth like an earlier one", STATE, () -> x.plane(1, 0, 0, 7));
        check.thrown(2, "a ninth of wrong numbers", ARGUMENT, () -> x.plane(0, 0, 0, 7));
        check.thrown(2, "a ninth too far away", ARGUMENT, () -> x.plane(1, 0, 0, 1000000001));
        check.due(3, "planes() with eight", 8, x::planes);
    }

    private static void solidsStay(Check check) {
        CarvedSolids x = new CarvedSolids();
        x.plane(1, 0, 0, 10);
        x.convex(1);
        check.due(2, "a second plane", 1, () -> x.plane(0, 1, 0, 0));
        check.due(2, "solids() is what it was", 1, x::solids);
        check.due(2, "the solid above the new plane", 1, () -> x.inside(5, 5, 5, 1));
        check.due(2, "the solid below the new plane", 1, () -> x.inside(5, -5, 5, 1));
        check.due(2, "no solid beyond its own plane", 0, () -> x.inside(15, 5, 5, 1));
        check.due(2, "a point becomes ON", 2, () -> x.inside(5, 0, 5, 1));
        check.due(2, "no face in the new plane", 0, () -> x.side(5, 0, 5, 1));
        check.due(2, "the face is where it was", 1, () -> x.side(10, 5, 5, 1));
        check.due(2, "a third plane, one with the first", 2, () -> x.plane(-3, 0, 0, -30));
        check.due(2, "the face is still there", 1, () -> x.side(10, 5, 5, 1));
        check.due(2, "the line still goes in once", 1, () -> x.enters(0, 5, 5));
    }

    private static void objectsAreApart(Check check) {
        CarvedSolids x = new CarvedSolids();
        CarvedSolids y = new CarvedSolids();
        x.plane(1, 0, 0, 0);
        x.convex(0);
        check.due(1, "planes() of another object", 0, y::planes);
        check.due(1, "solids() of another object", 0, y::solids);
    }
}
