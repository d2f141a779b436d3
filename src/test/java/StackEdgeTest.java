/** The boundary cases that promises 2 to 9 name: a test for each sentence, which stands above it. */
public final class StackEdgeTest {
    private static final Class<IllegalArgumentException> ARGUMENT = IllegalArgumentException.class;
    private static final Class<IllegalStateException> STATE = IllegalStateException.class;
    private static final Class<IndexOutOfBoundsException> INDEX = IndexOutOfBoundsException.class;
    private static final int LEAST = Integer.MIN_VALUE;
    private static final int GREATEST = Integer.MAX_VALUE;

    public static void main(String[] args) {
        Check check = new Check("StackEdgeTest");
        solidsThatAreThereStay(check);
        alsoOneThatIsOneGetsANumber(check);
        planeAllZero(check);
        planeFactorOutOfRange(check);
        planeDistanceOutOfRange(check);
        planeWhenEightAreGiven(check);
        howManyPlanes(check);
        convexOfNoneIsTheBox(check);
        convexOfAllThatAreGiven(check);
        convexLessThanZero(check);
        convexBitNotGiven(check);
        convexWhenSix(check);
        joinOfEmptyAndFull(check);
        joinHowOutOfRange(check);
        joinWhenNotTwo(check);
        joinOfSix(check);
        turnOfEmptyAndFull(check);
        turnWhenNone(check);
        copyOfTheTopAndTheLowest(check);
        copyWhenThereIsNone(check);
        copyWhenSix(check);
        dropOfTheLast(check);
        dropWhenNone(check);
        howManySolids(check);
        check.end();
    }

    /** A solid for each k: x <= 10 k, for as many as are asked for. */
    private static CarvedSolids steps(int planes, int solids) {
        CarvedSolids x = new CarvedSolids();
        for (int k = 0; k < planes; k++) {
            x.plane(1, 0, 0, 10 * k);
        }
        for (int k = 0; k < solids; k++) {
            x.convex(1 << k);
        }
        return x;
    }

    /** Which step the top solid of steps is, told by two points beside its end. */
    private static void isStep(Check check, int promise, String what, int k, CarvedSolids x) {
        int edge = 10 * k;
        check.due(promise, what + ", in", CarvedSolids.INSIDE, () -> x.inside(edge - 1, 1, 1, 1));
        check.due(promise, what + ", out", CarvedSolids.OUTSIDE, () -> x.inside(edge + 1, 1, 1, 1));
    }

    private static void isFull(Check check, int promise, String what, CarvedSolids x) {
        check.due(promise, what + ", the middle", CarvedSolids.INSIDE, () -> x.inside(5, 5, 5, 1));
        check.due(promise, what + ", a corner", CarvedSolids.INSIDE, () -> x.inside(999999, -999999, 999999, 1000));
        check.due(promise, what + ", out of the box", CarvedSolids.OUTSIDE, () -> x.inside(999001, 0, 0, 999));
        check.due(promise, what + ", the box's face", 1, () -> x.side(5, 5, -1000, 1));
        check.due(promise, what + ", a line", 1, () -> x.enters(2, 5, 5));
    }

    private static void isEmpty(Check check, int promise, String what, CarvedSolids x) {
        check.due(promise, what + ", the middle", CarvedSolids.OUTSIDE, () -> x.inside(5, 5, 5, 1));
        check.due(promise, what + ", a corner", CarvedSolids.OUTSIDE, () -> x.inside(999999, -999999, 999999, 1000));
        check.due(promise, what + ", out of the box", CarvedSolids.OUTSIDE, () -> x.inside(999001, 0, 0, 999));
        check.due(promise, what + ", the box's face", 0, () -> x.side(5, 5, -1000, 1));
        check.due(promise, what + ", a line", 0, () -> x.enters(2, 5, 5));
    }

    /** "Gives a plane (solids that are there stay what they are" */
    private static void solidsThatAreThereStay(Check check) {
        CarvedSolids x = steps(3, 3);
        x.convex(0);
        x.convex(0);
        x.turn();
        for (int k = 3; k < 8; k++) {
            x.plane(0, 1, 0, 100 * k + 50);
        }
        isEmpty(check, 2, "the empty one stays", x);
        check.due(2, "the empty one beyond a later plane", CarvedSolids.OUTSIDE, () -> x.inside(1, 900, 1, 1));
        x.drop();
        isFull(check, 2, "the full one stays", x);
        check.due(2, "the full one beyond a later plane", CarvedSolids.INSIDE, () -> x.inside(1, 900, 1, 1));
        for (int k = 2; k >= 0; k--) {
            x.drop();
            isStep(check, 2, "step " + k + " stays", k, x);
            check.due(2, "step " + k + " beyond a later plane", CarvedSolids.INSIDE, () -> x.inside(-1, 900, 1, 1));
            check.due(2, "step " + k + " has no face there", 0, () -> x.side(-1, 750, 1, 1));
        }
    }

    /** "also one that is one with another gets a number); answers its number." */
    private static void alsoOneThatIsOneGetsANumber(Check check) {
        CarvedSolids x = new CarvedSolids();
        check.due(2, "the first", 0, () -> x.plane(0, 0, 2, 8));
        check.due(2, "the same", 1, () -> x.plane(0, 0, 2, 8));
        check.due(2, "by a factor", 2, () -> x.plane(0, 0, 1, 4));
        check.due(2, "turned", 3, () -> x.plane(0, 0, -1, -4));
        check.due(2, "the box's", 4, () -> x.plane(0, 0, 1, 1000));
        check.due(2, "the box's turned", 5, () -> x.plane(0, 0, -3, -3000));
        check.due(2, "another", 6, () -> x.plane(1, 0, 0, 0));
        check.due(2, "and once more", 7, () -> x.plane(0, 0, -1, -4));
        check.thrown(2, "they fill the eight", STATE, () -> x.plane(0, 0, -1, -4));
        x.convex(1 << 7);
        check.due(4, "each has its own bit", CarvedSolids.INSIDE, () -> x.inside(1, 1, 5, 1));
        check.due(4, "and its own half-space", CarvedSolids.OUTSIDE, () -> x.inside(1, 1, 3, 1));
    }

    /** "IllegalArgumentException when a, b and c are all 0" */
    private static void planeAllZero(Check check) {
        CarvedSolids x = new CarvedSolids();
        int[] distances = {0, 1, -1, 1000000000, -1000000000, 1000000001, GREATEST, LEAST};
        for (int d : distances) {
            check.thrown(2, "all 0, d = " + d, ARGUMENT, () -> x.plane(0, 0, 0, d));
        }
        check.due(2, "not all 0: a", 0, () -> x.plane(1, 0, 0, 0));
        check.due(2, "not all 0: b", 1, () -> x.plane(0, 1, 0, 0));
        check.due(2, "not all 0: c", 2, () -> x.plane(0, 0, 1, 0));
        check.due(2, "a and b whose sum is 0", 3, () -> x.plane(1, -1, 0, 0));
        check.due(2, "a and c whose sum is 0", 4, () -> x.plane(-1, 0, 1, 0));
    }

    /** "or one of them is not -1000000 .. 1000000" */
    private static void planeFactorOutOfRange(Check check) {
        int[] wrong = {1000001, -1000001, 1000000000, -1000000000, GREATEST, LEAST};
        CarvedSolids x = new CarvedSolids();
        for (int n : wrong) {
            check.thrown(2, "a = " + n, ARGUMENT, () -> x.plane(n, 0, 0, 0));
            check.thrown(2, "b = " + n, ARGUMENT, () -> x.plane(0, n, 0, 0));
            check.thrown(2, "c = " + n, ARGUMENT, () -> x.plane(0, 0, n, 0));
            check.thrown(2, "all = " + n, ARGUMENT, () -> x.plane(n, n, n, 0));
        }
        check.due(2, "none was taken", 0, x::planes);
        int[] right = {1000000, -1000000};
        for (int n : right) {
            CarvedSolids y = new CarvedSolids();
            check.due(2, "a = " + n, 0, () -> y.plane(n, 0, 0, 0));
            check.due(2, "b = " + n, 1, () -> y.plane(0, n, 0, 0));
            check.due(2, "c = " + n, 2, () -> y.plane(0, 0, n, 0));
            check.due(2, "all = " + n, 3, () -> y.plane(n, n, n, 0));
        }
    }

    /** "or d not -1000000000 .. 1000000000" */
    private static void planeDistanceOutOfRange(Check check) {
        CarvedSolids x = new CarvedSolids();
        int[] wrong = {1000000001, -1000000001, GREATEST, LEAST};
        for (int d : wrong) {
            check.thrown(2, "d = " + d, ARGUMENT, () -> x.plane(1, 1, 1, d));
        }
        check.due(2, "the greatest d", 0, () -> x.plane(1000000, 0, 0, 1000000000));
        check.due(2, "the least d", 1, () -> x.plane(1000000, 0, 0, -1000000000));
        check.due(2, "the greatest d, far out", 2, () -> x.plane(1, 0, 0, 1000000000));
        check.due(2, "the least d, far out", 3, () -> x.plane(1, 0, 0, -1000000000));
        x.convex(4);
        isFull(check, 4, "all within a plane far out", x);
        x.convex(8);
        isEmpty(check, 4, "nothing within a plane far out", x);
    }

    /** "IllegalStateException when eight are given." */
    private static void planeWhenEightAreGiven(Check check) {
        CarvedSolids x = steps(7, 0);
        check.due(2, "the eighth", 7, () -> x.plane(1, 0, 0, 70));
        check.thrown(2, "a ninth", STATE, () -> x.plane(1, 0, 0, 80));
        check.thrown(2, "a ninth again", STATE, () -> x.plane(0, 0, 1, 80));
        check.thrown(2, "a ninth that is one with the box's", STATE, () -> x.plane(1, 0, 0, 1000));
        check.thrown(2, "a ninth with wrong numbers", ARGUMENT, () -> x.plane(1000001, 0, 0, 0));
        check.due(3, "eight are given", 8, x::planes);
    }

    /** "How many planes are given." */
    private static void howManyPlanes(Check check) {
        CarvedSolids x = new CarvedSolids();
        for (int k = 0; k < 8; k++) {
            check.due(3, "planes() before the next", k, x::planes);
            x.plane(0, 1, 0, k);
        }
        check.due(3, "planes() when full", 8, x::planes);
        x.convex(255);
        x.drop();
        check.due(3, "planes() does not go with the solids", 8, x::planes);
    }

    /** "all points of the box that are in the half-spaces of all given planes k with bit k of set 1 (0: the whole box)." */
    private static void convexOfNoneIsTheBox(Check check) {
        CarvedSolids x = new CarvedSolids();
        check.due(4, "convex(0) without planes", 1, () -> x.convex(0));
        isFull(check, 4, "the whole box without planes", x);
        x.plane(1, 0, 0, -400);
        x.plane(0, 0, 1, 6);
        check.due(4, "convex(0) with planes", 2, () -> x.convex(0));
        isFull(check, 4, "the whole box with planes", x);
    }

    /** The same sentence with every bit that can be 1. */
    private static void convexOfAllThatAreGiven(Check check) {
        for (int planes = 1; planes <= 8; planes++) {
            CarvedSolids x = steps(planes, 0);
            int all = (1 << planes) - 1;
            check.due(4, "convex(" + all + ")", 1, () -> x.convex(all));
            isStep(check, 4, "the least of them counts", 0, x);
            int last = planes - 1;
            check.due(4, "the last alone", 2, () -> x.convex(1 << last));
            isStep(check, 4, "the last alone counts", last, x);
        }
        CarvedSolids x = new CarvedSolids();
        x.plane(1, 0, 0, -1);
        x.plane(-1, 0, 0, -1);
        x.convex(3);
        isEmpty(check, 4, "half-spaces that have nothing in common", x);
    }

    /** "IllegalArgumentException when set is less than 0" */
    private static void convexLessThanZero(Check check) {
        for (int planes = 0; planes <= 8; planes += 4) {
            CarvedSolids x = steps(planes, 0);
            int[] wrong = {-1, -2, -256, LEAST, LEAST + 1};
            for (int set : wrong) {
                check.thrown(4, "convex(" + set + ") with " + planes, ARGUMENT, () -> x.convex(set));
            }
            check.due(9, "none was put there", 0, x::solids);
        }
    }

    /** "or has a bit for a plane that is not given" */
    private static void convexBitNotGiven(Check check) {
        for (int planes = 0; planes <= 8; planes++) {
            CarvedSolids x = steps(planes, 0);
            for (int bit = planes; bit < 31; bit++) {
                int alone = 1 << bit;
                int withOthers = alone | (1 << planes) - 1;
                check.thrown(4, "convex(" + alone + ") with " + planes, ARGUMENT, () -> x.convex(alone));
                check.thrown(4, "convex(" + withOthers + ") with " + planes, ARGUMENT, () -> x.convex(withOthers));
            }
            check.thrown(4, "convex of all bits with " + planes, ARGUMENT, () -> x.convex(GREATEST));
        }
        CarvedSolids x = steps(2, 0);
        check.thrown(4, "before it is given", ARGUMENT, () -> x.convex(4));
        x.plane(1, 0, 0, 20);
        check.due(4, "after it is given", 1, () -> x.convex(4));
    }

    /** "IllegalStateException when there are six solids." */
    private static void convexWhenSix(Check check) {
        CarvedSolids x = steps(6, 5);
        check.due(4, "the sixth", 6, () -> x.convex(32));
        check.thrown(4, "a seventh", STATE, () -> x.convex(0));
        check.thrown(4, "a seventh of a wrong set", ARGUMENT, () -> x.convex(64));
        check.thrown(4, "a seventh of a negative set", ARGUMENT, () -> x.convex(-1));
        isStep(check, 4, "the sixth is on top", 5, x);
        x.drop();
        check.due(4, "there is room again", 6, () -> x.convex(1));
        isStep(check, 4, "the new sixth", 0, x);
    }

    /** "for how = 0 all points that are in A or in B; 1 those in both; 2 those in A and not in B; 3 those in one" */
    private static void joinOfEmptyAndFull(Check check) {
        boolean[][] due = {{false, true, true, true}, {false, false, false, true},
            {false, true, false, false}, {false, true, true, false}};
        for (int how = 0; how < 4; how++) {
            for (int pair = 0; pair < 4; pair++) {
                CarvedSolids x = new CarvedSolids();
                putEmptyOrFull(x, (pair & 1) != 0);
                putEmptyOrFull(x, (pair & 2) != 0);
                x.join(how);
                String what = "join(" + how + ") of A " + (pair & 1) + " and B " + (pair >> 1);
                if (due[how][pair]) {
                    isFull(check, 5, what, x);
                } else {
                    isEmpty(check, 5, what, x);
                }
            }
        }
    }

    private static void putEmptyOrFull(CarvedSolids x, boolean full) {
        x.convex(0);
        if (!full) {
            x.turn();
        }
    }

    /** "IllegalArgumentException when how is not 0 .. 3" */
    private static void joinHowOutOfRange(Check check) {
        int[] wrong = {-1, 4, 5, -4, 256, LEAST, GREATEST};
        for (int solids = 0; solids <= 6; solids++) {
            CarvedSolids x = steps(6, solids);
            for (int how : wrong) {
                check.thrown(5, "join(" + how + ") of " + solids, ARGUMENT, () -> x.join(how));
            }
            check.due(5, "all are still there", solids, x::solids);
        }
    }

    /** "IllegalStateException when there are not two." */
    private static void joinWhenNotTwo(Check check) {
        for (int how = 0; how < 4; how++) {
            int way = how;
            check.thrown(5, "join(" + how + ") of none", STATE, () -> steps(1, 0).join(way));
            check.thrown(5, "join(" + how + ") of one", STATE, () -> steps(1, 1).join(way));
            check.due(5, "join(" + how + ") of two", 1, () -> steps(2, 2).join(way));
        }
        CarvedSolids x = steps(2, 2);
        x.join(0);
        check.thrown(5, "join of the one that was two", STATE, () -> x.join(0));
        isStep(check, 5, "which stays", 1, x);
    }

    /** "Takes the two uppermost solids, A below B, from the stack and puts one there" */
    private static void joinOfSix(Check check) {
        CarvedSolids x = steps(6, 6);
        check.due(5, "join(1) of six", 5, () -> x.join(1));
        isStep(check, 5, "the fifth and the sixth", 4, x);
        check.due(5, "there is room for one again", 6, () -> x.convex(0));
        x.drop();
        x.drop();
        isStep(check, 5, "the fourth is as it was", 3, x);
        check.due(5, "join(0) of four", 3, () -> x.join(0));
        isStep(check, 5, "the third or the fourth", 3, x);
        check.due(5, "join(2) of three", 2, () -> x.join(2));
        isEmpty(check, 5, "A is the one below", x);
    }

    /** "The top solid becomes all points of the box that it had not." */
    private static void turnOfEmptyAndFull(Check check) {
        CarvedSolids x = new CarvedSolids();
        x.convex(0);
        x.turn();
        isEmpty(check, 6, "the whole box turned", x);
        x.turn();
        isFull(check, 6, "nothing turned", x);
        CarvedSolids six = steps(6, 6);
        six.turn();
        check.due(6, "the sixth turned, in", CarvedSolids.OUTSIDE, () -> six.inside(49, 1, 1, 1));
        check.due(6, "the sixth turned, out", CarvedSolids.INSIDE, () -> six.inside(51, 1, 1, 1));
        check.due(6, "six are still there", 6, six::solids);
        six.drop();
        isStep(check, 6, "the fifth is as it was", 4, six);
    }

    /** "IllegalStateException when there is none." */
    private static void turnWhenNone(Check check) {
        CarvedSolids x = steps(2, 0);
        check.thrown(6, "turn() with none", STATE, () -> turned(x));
        x.convex(1);
        check.due(6, "turn() with one", 1, () -> turned(x));
        x.drop();
        check.thrown(6, "turn() with none again", STATE, () -> turned(x));
        x.convex(2);
        isStep(check, 6, "a refused one turns nothing", 1, x);
    }

    private static int turned(CarvedSolids x) {
        x.turn();
        return x.solids();
    }

    /** "Puts a copy of a solid on the stack, of the k-th one below the top one (0: of that)." */
    private static void copyOfTheTopAndTheLowest(Check check) {
        for (int solids = 1; solids <= 5; solids++) {
            for (int k = 0; k < solids; k++) {
                CarvedSolids x = steps(6, solids);
                int below = k;
                check.due(7, "copy(" + k + ") of " + solids, solids + 1, () -> x.copy(below));
                isStep(check, 7, "copy(" + k + ") of " + solids, solids - 1 - k, x);
                x.turn();
                x.drop();
                isStep(check, 7, "the top one of " + solids + " is as it was", solids - 1, x);
            }
        }
    }

    /** "IndexOutOfBoundsException when there is none" */
    private static void copyWhenThereIsNone(Check check) {
        for (int solids = 0; solids <= 6; solids++) {
            CarvedSolids x = steps(6, solids);
            int[] wrong = {solids, solids + 1, -1, -solids - 1, LEAST, GREATEST};
            for (int k : wrong) {
                check.thrown(7, "copy(" + k + ") of " + solids, INDEX, () -> x.copy(k));
            }
            check.due(7, "none came", solids, x::solids);
        }
        CarvedSolids x = steps(6, 2);
        x.drop();
        check.thrown(7, "copy of one that was dropped", INDEX, () -> x.copy(1));
        check.thrown(7, "copy of one above the top", INDEX, () -> x.copy(-1));
    }

    /** "IllegalStateException when there are six." */
    private static void copyWhenSix(Check check) {
        CarvedSolids x = steps(6, 5);
        check.due(7, "copy to the sixth", 6, () -> x.copy(4));
        for (int k = 0; k < 6; k++) {
            int below = k;
            check.thrown(7, "copy(" + k + ") of six", STATE, () -> x.copy(below));
        }
        isStep(check, 7, "the sixth is on top", 0, x);
        x.drop();
        check.due(7, "there is room again", 6, () -> x.copy(0));
        isStep(check, 7, "the new sixth", 4, x);
    }

    /** "Takes the top solid from the stack. Answers how many there are then." */
    private static void dropOfTheLast(Check check) {
        CarvedSolids x = steps(6, 6);
        for (int there = 5; there >= 1; there--) {
            check.due(8, "drop() to " + there, there, x::drop);
            isStep(check, 8, "the next is on top", there - 1, x);
        }
        check.due(8, "drop() of the last", 0, x::drop);
        check.thrown(8, "nothing is on top", STATE, () -> x.inside(1, 1, 1, 1));
    }

    /** "IllegalStateException when there is none." */
    private static void dropWhenNone(Check check) {
        CarvedSolids x = steps(2, 0);
        check.thrown(8, "drop() with none", STATE, x::drop);
        check.thrown(8, "drop() with none again", STATE, x::drop);
        check.due(8, "the count does not go below 0", 0, x::solids);
        check.due(8, "the next is the first", 1, () -> x.convex(2));
        isStep(check, 8, "and is on top", 1, x);
    }

    /** "How many solids there are." */
    private static void howManySolids(Check check) {
        CarvedSolids x = steps(6, 0);
        for (int there = 0; there < 6; there++) {
            check.due(9, "solids() before the next", there, x::solids);
            x.convex(0);
        }
        check.due(9, "solids() when full", 6, x::solids);
        for (int there = 5; there >= 0; there--) {
            x.drop();
            check.due(9, "solids() after a drop", there, x::solids);
        }
    }
}
