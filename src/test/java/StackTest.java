/** Promises 4 to 9: what is put on the stack, joined, turned, copied and dropped. */
public final class StackTest {
    private static final Class<IllegalArgumentException> ARGUMENT = IllegalArgumentException.class;
    private static final Class<IllegalStateException> STATE = IllegalStateException.class;
    private static final Class<IndexOutOfBoundsException> INDEX = IndexOutOfBoundsException.class;

    public static void main(String[] args) {
        Check check = new Check("StackTest");
        convexSets(check);
        convexOfEight(check);
        convexRefused(check);
        joins(check);
        joinRefused(check);
        joinTakesTheUppermost(check);
        turns(check);
        copies(check);
        copyRefused(check);
        drops(check);
        counts(check);
        check.end();
    }

    /** Planes x <= 0, y <= 0 and z >= 5: each of the eight corners tells which half-spaces a solid has. */
    private static CarvedSolids threePlanes() {
        CarvedSolids x = new CarvedSolids();
        x.plane(1, 0, 0, 0);
        x.plane(0, 1, 0, 0);
        x.plane(0, 0, -1, -5);
        return x;
    }

    private static void convexSets(Check check) {
        for (int set = 0; set < 8; set++) {
            CarvedSolids x = threePlanes();
            int chosen = set;
            check.due(4, "convex(" + set + ")", 1, () -> x.convex(chosen));
            for (int corner = 0; corner < 8; corner++) {
                int px = (corner & 1) != 0 ? -3 : 3;
                int py = (corner & 2) != 0 ? -4 : 4;
                int pz = (corner & 4) != 0 ? 6 : -6;
                int want = (corner & set) == set ? 1 : 0;
                check.due(4, "convex(" + set + ") at corner " + corner, want, () -> x.inside(px, py, pz, 1));
            }
            check.due(4, "convex(" + set + ") out of the box", 0, () -> x.inside(-1001, -1, 6, 1));
        }
    }

    private static void convexOfEight(Check check) {
        CarvedSolids x = new CarvedSolids();
        for (int k = 0; k < 8; k++) {
            x.plane(1, 0, 0, 10 * (k + 1));
        }
        for (int k = 0; k < 8; k++) {
            int alone = 1 << k;
            x.convex(alone);
            int edge = 10 * (k + 1);
            check.due(4, "plane " + k + " alone, below", 1, () -> x.inside(edge - 1, 0, 0, 1));
            check.due(4, "plane " + k + " alone, above", 0, () -> x.inside(edge + 1, 0, 0, 1));
            x.drop();
        }
        x.convex(255);
        check.due(4, "all eight, in", 1, () -> x.inside(9, 0, 0, 1));
        check.due(4, "all eight, out", 0, () -> x.inside(11, 0, 0, 1));
    }

    private static void convexRefused(Check check) {
        CarvedSolids x = threePlanes();
        check.thrown(4, "convex(-1)", ARGUMENT, () -> x.convex(-1));
        check.thrown(4, "convex of the least int", ARGUMENT, () -> x.convex(Integer.MIN_VALUE));
        check.thrown(4, "convex(8)", ARGUMENT, () -> x.convex(8));
        check.thrown(4, "convex(9)", ARGUMENT, () -> x.convex(9));
        check.thrown(4, "convex of the greatest int", ARGUMENT, () -> x.convex(Integer.MAX_VALUE));
        check.due(9, "solids() after refused ones", 0, x::solids);
        for (int i = 1; i <= 6; i++) {
            int there = i;
            check.due(4, "convex the " + i + "th time", there, () -> x.convex(7));
        }
        check.thrown(4, "a seventh", STATE, () -> x.convex(0));
        check.thrown(4, "a seventh of a wrong set", ARGUMENT, () -> x.convex(8));
        check.due(9, "solids() with six", 6, x::solids);
        for (int k = 3; k < 8; k++) {
            x.plane(0, 0, 1, k);
        }
        x.drop();
        check.thrown(4, "convex(256) with eight planes", ARGUMENT, () -> x.convex(256));
        check.due(4, "convex(255) with eight planes", 6, () -> x.convex(255));
    }

    private static void joins(Check check) {
        // Want for how = 0 .. 3: bit A + 2 * B is the answer where the point is in A and in B or not.
        int[] table = {0b1110, 0b1000, 0b0010, 0b0110};
        for (int how = 0; how < 4; how++) {
            CarvedSolids x = threePlanes();
            x.convex(1);
            x.convex(2);
            int way = how;
            check.due(5, "join(" + how + ")", 1, () -> x.join(way));
            check.due(5, "solids() after it", 1, x::solids);
            for (int place = 0; place < 4; place++) {
                int px = (place & 1) != 0 ? -3 : 3;
                int py = (place & 2) != 0 ? -4 : 4;
                int want = table[how] >> place & 1;
                check.due(5, "join(" + how + ") at place " + place, want, () -> x.inside(px, py, 1, 1));
            }
            check.due(5, "join(" + how + ") out of the box", 0, () -> x.inside(2000, -2000, 1, 1));
        }
    }

    private static void joinRefused(Check check) {
        CarvedSolids x = threePlanes();
        check.thrown(5, "join(0) with none", STATE, () -> x.join(0));
        check.thrown(5, "join(4) with none", ARGUMENT, () -> x.join(4));
        x.convex(1);
        check.thrown(5, "join(3) with one", STATE, () -> x.join(3));
        check.thrown(5, "join(-1) with one", ARGUMENT, () -> x.join(-1));
        x.convex(2);
        check.thrown(5, "join(4)", ARGUMENT, () -> x.join(4));
        check.thrown(5, "join(-1)", ARGUMENT, () -> x.join(-1));
        check.thrown(5, "join of the least int", ARGUMENT, () -> x.join(Integer.MIN_VALUE));
        check.due(5, "solids() after refused ones", 2, x::solids);
        check.due(5, "the top one is what it was", 1, () -> x.inside(3, -4, 1, 1));
    }

    private static void joinTakesTheUppermost(Check check) {
        CarvedSolids x = threePlanes();
        x.convex(4);
        x.convex(1);
        x.convex(2);
        check.due(5, "join(2) of three", 2, () -> x.join(2));
        check.due(5, "in A and not in B", 1, () -> x.inside(-3, 4, 1, 1));
        check.due(5, "in B and not in A", 0, () -> x.inside(3, -4, 1, 1));
        check.due(8, "drop() shows the one below", 1, x::drop);
        check.due(5, "which is what it was, above", 1, () -> x.inside(3, -4, 6, 1));
        check.due(5, "which is what it was, below", 0, () -> x.inside(3, -4, 1, 1));
    }

    private static void turns(Check check) {
        CarvedSolids x = threePlanes();
        check.thrown(6, "turn() with none", STATE, () -> turned(x));
        x.convex(2);
        x.convex(1);
        check.due(6, "turn()", 2, () -> turned(x));
        check.due(6, "what it had", 0, () -> x.inside(-3, 4, 1, 1));
        check.due(6, "what it had not", 1, () -> x.inside(3, 4, 1, 1));
        check.due(6, "out of the box", 0, () -> x.inside(1001, 4, 1, 1));
        check.due(6, "turn() again", 2, () -> turned(x));
        check.due(6, "what it has again", 1, () -> x.inside(-3, 4, 1, 1));
        check.due(6, "what it has not again", 0, () -> x.inside(3, 4, 1, 1));
        x.drop();
        check.due(6, "the one below stays", 1, () -> x.inside(3, -4, 1, 1));
        x.drop();
        x.convex(0);
        x.turn();
        check.due(6, "nothing of the box", 0, () -> x.inside(3, 4, 1, 1));
        check.due(6, "and nothing out of it", 0, () -> x.inside(3, 4, -1001, 1));
        x.drop();
        check.thrown(6, "turn() with none any more", STATE, () -> turned(x));
    }

    private static int turned(CarvedSolids x) {
        x.turn();
        return x.solids();
    }

    private static void copies(Check check) {
        CarvedSolids x = threePlanes();
        x.convex(1);
        x.convex(2);
        x.convex(4);
        check.due(7, "copy(2)", 4, () -> x.copy(2));
        check.due(7, "the lowest on top, in", 1, () -> x.inside(-3, 4, 1, 1));
        check.due(7, "the lowest on top, out", 0, () -> x.inside(3, -4, 6, 1));
        check.due(7, "copy(0)", 5, () -> x.copy(0));
        check.due(7, "the top one again", 1, () -> x.inside(-3, 4, 1, 1));
        x.turn();
        x.drop();
        check.due(7, "a copy turned leaves the other alone", 1, () -> x.inside(-3, 4, 1, 1));
        check.due(7, "copy(1)", 5, () -> x.copy(1));
        check.due(7, "the one below the top", 1, () -> x.inside(3, 4, 6, 1));
        check.due(7, "and not another", 0, () -> x.inside(-3, -4, 1, 1));
        x.join(0);
        check.due(7, "joined with the one below", 1, () -> x.inside(-3, 4, 1, 1));
        x.drop();
        check.due(7, "the one that was copied stays", 0, () -> x.inside(-3, 4, 1, 1));
    }

    private static void copyRefused(Check check) {
        CarvedSolids x = threePlanes();
        check.thrown(7, "copy(0) with none", INDEX, () -> x.copy(0));
        check.thrown(7, "copy(-1) with none", INDEX, () -> x.copy(-1));
        x.convex(0);
        check.thrown(7, "copy(1) with one", INDEX, () -> x.copy(1));
        check.thrown(7, "copy(-1) with one", INDEX, () -> x.copy(-1));
        check.thrown(7, "copy of the least int", INDEX, () -> x.copy(Integer.MIN_VALUE));
        check.thrown(7, "copy of the greatest int", INDEX, () -> x.copy(Integer.MAX_VALUE));
        check.due(7, "solids() after refused ones", 1, x::solids);
        for (int i = 2; i <= 6; i++) {
            int there = i;
            check.due(7, "copy(" + (i - 2) + ") to " + i, there, () -> x.copy(there - 2));
        }
        check.thrown(7, "copy(0) with six", STATE, () -> x.copy(0));
        check.thrown(7, "copy(5) with six", STATE, () -> x.copy(5));
        check.thrown(7, "copy(6) with six", INDEX, () -> x.copy(6));
        check.thrown(7, "copy(-1) with six", INDEX, () -> x.copy(-1));
        check.due(7, "solids() with six", 6, x::solids);
    }

    private static void drops(Check check) {
        CarvedSolids x = threePlanes();
        check.thrown(8, "drop() with none", STATE, x::drop);
        x.convex(1);
        x.convex(2);
        check.due(8, "drop()", 1, x::drop);
        check.due(8, "the one below is on top, in", 1, () -> x.inside(-3, 4, 1, 1));
        check.due(8, "the one below is on top, out", 0, () -> x.inside(3, -4, 1, 1));
        check.due(8, "drop() of the last", 0, x::drop);
        check.thrown(8, "drop() with none any more", STATE, x::drop);
        check.thrown(8, "inside with none any more", STATE, () -> x.inside(0, 0, 0, 1));
        check.due(4, "a new one where an old one was", 1, () -> x.convex(4));
        check.due(4, "which has nothing of the old, in", 1, () -> x.inside(3, 4, 6, 1));
        check.due(4, "which has nothing of the old, out", 0, () -> x.inside(-3, 4, 1, 1));
    }

    private static void counts(Check check) {
        CarvedSolids x = new CarvedSolids();
        for (int i = 1; i <= 6; i++) {
            x.convex(0);
            check.due(9, "solids() after " + i, i, x::solids);
        }
        check.due(9, "solids() changes nothing", 6, x::solids);
        x.turn();
        check.due(9, "solids() after turn()", 6, x::solids);
        x.join(3);
        check.due(9, "solids() after join(3)", 5, x::solids);
        x.drop();
        check.due(9, "solids() after drop()", 4, x::solids);
        x.copy(3);
        check.due(9, "solids() after copy(3)", 5, x::solids);
    }
}
