import java.util.NoSuchElementException;

/**
 * Solids in a box, cut out by planes and put together, all in whole numbers: where points lie,
 * which way faces look, and how often lines go in.
 */
public final class CarvedSolids {
    public static final int OUTSIDE = 0;
    public static final int INSIDE = 1;
    public static final int ON = 2;

    private static final int MOST_SOLIDS = 6;
    private static final int MOST_FACTOR = 1000000;
    private static final int MOST_DISTANCE = 1000000000;
    private static final int MOST_NUMERATOR = 1000000;
    private static final int MOST_DENOMINATOR = 1000;
    private static final int MOST_LINE_PLACE = 999;
    private static final int AXES = 3;
    private static final int WAYS_TO_JOIN = 4;

    private final Planes space;
    private final Solid[] stack;
    private final Point spot;
    private int height;

    public CarvedSolids() {
        space = new Planes();
        stack = new Solid[MOST_SOLIDS];
        for (int i = 0; i < MOST_SOLIDS; i++) {
            stack[i] = new Solid();
        }
        spot = new Point();
        height = 0;
    }

    public int plane(int a, int b, int c, int d) throws IllegalArgumentException, IllegalStateException {
        if (a == 0 && b == 0 && c == 0) {
            throw new IllegalArgumentException("a, b and c are all 0");
        }
        if (isBeyond(a, MOST_FACTOR) || isBeyond(b, MOST_FACTOR) || isBeyond(c, MOST_FACTOR)) {
            throw new IllegalArgumentException("a, b and c go from -1000000 to 1000000");
        }
        if (isBeyond(d, MOST_DISTANCE)) {
            throw new IllegalArgumentException("d goes from -1000000000 to 1000000000");
        }
        if (space.given() >= Planes.MOST_GIVEN) {
            throw new IllegalStateException("eight planes are given");
        }
        int number = space.given();
        space.add(new Plane(a, b, c, d));
        return number;
    }

    public int planes() {
        return space.given();
    }

    public int convex(int set) throws IllegalArgumentException, IllegalStateException {
        if (set < 0 || (set >> space.given()) != 0) {
            throw new IllegalArgumentException("the set has a plane that is not given");
        }
        requireRoom();
        stack[height].becomeConvex(set);
        height++;
        return height;
    }

    public int join(int how) throws IllegalArgumentException, IllegalStateException {
        if (how < 0 || how >= WAYS_TO_JOIN) {
            throw new IllegalArgumentException("solids are joined in the ways 0 to 3");
        }
        if (height < 2) {
            throw new IllegalStateException("there are not two solids");
        }
        stack[height - 2].joinWith(stack[height - 1], how);
        height--;
        return height;
    }

    public void turn() throws IllegalStateException {
        requireSolid();
        stack[height - 1].becomeItsRest();
    }

    public int copy(int k) throws IndexOutOfBoundsException, IllegalStateException {
        if (k < 0 || k >= height) {
            throw new IndexOutOfBoundsException("there is no such solid");
        }
        requireRoom();
        stack[height].becomeLike(stack[height - 1 - k]);
        height++;
        return height;
    }

    public int drop() throws IllegalStateException {
        requireSolid();
        height--;
        return height;
    }

    public int solids() {
        return height;
    }

    public int inside(int x, int y, int z, int w) throws IllegalArgumentException, IllegalStateException {
        requirePoint(x, y, z, w);
        requireSolid();
        spot.place(x, y, z, w);
        if (space.isOnAny(spot)) {
            return ON;
        }
        return topHas(space.cellOf(spot)) ? INSIDE : OUTSIDE;
    }

    public int side(int x, int y, int z, int w)
            throws IllegalArgumentException, IllegalStateException, NoSuchElementException {
        requirePoint(x, y, z, w);
        requireSolid();
        spot.place(x, y, z, w);
        int face = space.onlyOneAt(spot);
        if (face == Planes.NONE) {
            throw new NoSuchElementException("the point is not on a side");
        }
        return lookAtSpot(face);
    }

    public int enters(int axis, int u, int v)
            throws IllegalArgumentException, IllegalStateException, NoSuchElementException {
        if (axis < 0 || axis >= AXES) {
            throw new IllegalArgumentException("the axes are 0, 1 and 2");
        }
        if (isBeyond(u, MOST_LINE_PLACE) || isBeyond(v, MOST_LINE_PLACE)) {
            throw new IllegalArgumentException("u and v go from -999 to 999");
        }
        requireSolid();
        int entries = 0;
        for (int i = 0; i < space.count(); i++) {
            if (space.isFirst(i) && isEntry(i, axis, u, v)) {
                entries++;
            }
        }
        return entries;
    }

    /** Whether the line, followed upwards, comes into the top solid where it meets plane i. */
    private boolean isEntry(int i, int axis, int u, int v) {
        Plane plane = space.get(i);
        long rise = plane.factor(axis);
        if (rise == 0) {
            // A line that lies in this plane is found out where it meets the box's: there it is on two planes.
            return false;
        }
        spot.placeOnAxis(axis, 0, u, v, 1);
        long missing = -plane.excess(spot);
        spot.placeOnAxis(axis, rise < 0 ? -missing : missing, u, v, Math.abs(rise));
        if (!space.isInBox(spot)) {
            return false;
        }
        if (space.onlyOneAt(spot) == Planes.NONE) {
            throw new NoSuchElementException("the line has a point of the box on two planes");
        }
        return lookAtSpot(i) == (rise < 0 ? 1 : -1);
    }

    /** Which way the top solid's face in the given plane looks at the spot, a point on that side. */
    private int lookAtSpot(int face) {
        boolean whereLess = topHas(space.cellWhereLess(spot, face));
        boolean whereMore = topHas(space.cellWhereMore(spot, face));
        if (whereLess == whereMore) {
            return 0;
        }
        return whereLess ? 1 : -1;
    }

    /** Whether the top solid has the points of a cell, told as in Planes. */
    private boolean topHas(int cell) {
        return Planes.isCellInBox(cell) && stack[height - 1].has(Planes.givenOfCell(cell));
    }

    private void requireRoom() {
        if (height >= MOST_SOLIDS) {
            throw new IllegalStateException("there are six solids");
        }
    }

    private void requireSolid() {
        if (height == 0) {
            throw new IllegalStateException("there is no solid");
        }
    }

    private static void requirePoint(int x, int y, int z, int w) {
        if (w < 1 || w > MOST_DENOMINATOR) {
            throw new IllegalArgumentException("w goes from 1 to 1000");
        }
        if (isBeyond(x, MOST_NUMERATOR) || isBeyond(y, MOST_NUMERATOR) || isBeyond(z, MOST_NUMERATOR)) {
            throw new IllegalArgumentException("x, y and z go from -1000000 to 1000000");
        }
    }

    /** Two comparisons instead of Math.abs, which leaves the least int negative. */
    private static boolean isBeyond(int number, int most) {
        return number < -most || number > most;
    }

    /** The point (x / w, y / w, z / w); one is made for an object and used again for all its calls. */
    private static final class Point {
        private long x;
        private long y;
        private long z;
        private long w;

        void place(long newX, long newY, long newZ, long newW) {
            x = newX;
            y = newY;
            z = newZ;
            w = newW;
        }

        /** Places it at along / newW on the axis and at u and v on the other two. */
        void placeOnAxis(int axis, long along, long u, long v, long newW) {
            long first = u * newW;
            long second = v * newW;
            if (axis == 0) {
                place(along, first, second, newW);
            } else if (axis == 1) {
                place(first, along, second, newW);
            } else {
                place(first, second, along, newW);
            }
        }
    }

    /**
     * The plane a x + b y + c z = d. No product here leaves a long: a, b, c are at most 10^6, d at most
     * 10^9, and a point's numbers at most 3 * 10^9 (where a line meets a plane, perhaps far out).
     */
    private static final class Plane {
        private final long a;
        private final long b;
        private final long c;
        private final long d;

        Plane(long a, long b, long c, long d) {
            this.a = a;
            this.b = b;
            this.c = c;
            this.d = d;
        }

        long factor(int axis) {
            if (axis == 0) {
                return a;
            }
            return axis == 1 ? b : c;
        }

        /** w times what a x + b y + c z is more than d: less than 0 within the half-space. */
        long excess(Point p) {
            return a * p.x + b * p.y + c * p.z - d * p.w;
        }

        boolean isOneWith(Plane other) {
            return a * other.b == b * other.a
                    && a * other.c == c * other.a
                    && b * other.c == c * other.b
                    && a * other.d == d * other.a
                    && b * other.d == d * other.b
                    && c * other.d == d * other.c;
        }

        /** Whether a plane that is one with this one has its half-space on the same side. */
        boolean looksLike(Plane other) {
            return a * other.a + b * other.b + c * other.c > 0;
        }
    }

    /**
     * The box's planes, numbers 0 to 5, and behind them the given ones. What the planes leave of space is
     * in CELLS; a cell is told by a number with bit i set when it lies in plane i's half-space.
     */
    private static final class Planes {
        static final int NONE = -1;
        static final int MOST_GIVEN = 8;
        private static final int OF_BOX = 6;
        private static final int BOX_BITS = (1 << OF_BOX) - 1;
        private static final int EDGE = 1000;

        private final Plane[] all;
        /** For each plane the lowest number of those that are one with it. */
        private final int[] first;
        private int count;

        Planes() {
            all = new Plane[OF_BOX + MOST_GIVEN];
            first = new int[OF_BOX + MOST_GIVEN];
            count = 0;
            add(new Plane(1, 0, 0, EDGE));
            add(new Plane(-1, 0, 0, EDGE));
            add(new Plane(0, 1, 0, EDGE));
            add(new Plane(0, -1, 0, EDGE));
            add(new Plane(0, 0, 1, EDGE));
            add(new Plane(0, 0, -1, EDGE));
        }

        static boolean isCellInBox(int cell) {
            return (cell & BOX_BITS) == BOX_BITS;
        }

        static int givenOfCell(int cell) {
            return cell >> OF_BOX;
        }

        /** The caller sees to it that there is room. */
        void add(Plane plane) {
            all[count] = plane;
            first[count] = firstOneWith(plane);
            count++;
        }

        private int firstOneWith(Plane plane) {
            for (int i = 0; i < count; i++) {
                if (all[i].isOneWith(plane)) {
                    return i;
                }
            }
            return count;
        }

        int count() {
            return count;
        }

        int given() {
            return count - OF_BOX;
        }

        Plane get(int i) {
            return all[i];
        }

        boolean isFirst(int i) {
            return first[i] == i;
        }

        boolean isInBox(Point p) {
            for (int i = 0; i < OF_BOX; i++) {
                if (all[i].excess(p) > 0) {
                    return false;
                }
            }
            return true;
        }

        boolean isOnAny(Point p) {
            for (int i = 0; i < count; i++) {
                if (all[i].excess(p) == 0) {
                    return true;
                }
            }
            return false;
        }

        /** The first number of the plane that the point lies on, or NONE when it lies on none or on several. */
        int onlyOneAt(Point p) {
            int found = NONE;
            for (int i = 0; i < count; i++) {
                if (all[i].excess(p) == 0) {
                    if (found != NONE && found != first[i]) {
                        return NONE;
                    }
                    found = first[i];
                }
            }
            return found;
        }

        /** The cell of a free point. For others, only the planes that the point does not lie on count. */
        int cellOf(Point p) {
            int cell = 0;
            for (int i = 0; i < count; i++) {
                if (all[i].excess(p) < 0) {
                    cell |= 1 << i;
                }
            }
            return cell;
        }

        /** The cell beside a point on a side, where a x + b y + c z is less than d for the face's numbers. */
        int cellWhereLess(Point p, int face) {
            return cellOf(p) | halfSpacesAlong(face, true);
        }

        /** The cell on the other side. */
        int cellWhereMore(Point p, int face) {
            return cellOf(p) | halfSpacesAlong(face, false);
        }

        /** The half-spaces of the planes one with the face that lie on its own half-space's side, or not there. */
        private int halfSpacesAlong(int face, boolean sameSide) {
            int bits = 0;
            for (int i = 0; i < count; i++) {
                if (first[i] == face && all[i].looksLike(all[face]) == sameSide) {
                    bits |= 1 << i;
                }
            }
            return bits;
        }
    }

    /**
     * A solid as the set of the cells that it has, a bit each: the given planes' half-spaces decide, and the
     * box is seen to where a point is asked for. A plane that is given later splits all cells alike, so that
     * the solids that are there stay what they are.
     */
    private static final class Solid {
        private static final int CELLS = 1 << Planes.MOST_GIVEN;
        private static final int WORD_SHIFT = 6;
        private static final int WORDS = CELLS >> WORD_SHIFT;

        private final long[] words;

        Solid() {
            words = new long[WORDS];
        }

        boolean has(int cell) {
            return (words[cell >> WORD_SHIFT] >> cell & 1L) != 0;
        }

        void becomeConvex(int set) {
            for (int i = 0; i < WORDS; i++) {
                words[i] = 0;
            }
            for (int cell = 0; cell < CELLS; cell++) {
                if ((cell & set) == set) {
                    words[cell >> WORD_SHIFT] |= 1L << cell;
                }
            }
        }

        void becomeLike(Solid other) {
            for (int i = 0; i < WORDS; i++) {
                words[i] = other.words[i];
            }
        }

        void becomeItsRest() {
            for (int i = 0; i < WORDS; i++) {
                words[i] = ~words[i];
            }
        }

        void joinWith(Solid other, int how) {
            for (int i = 0; i < WORDS; i++) {
                words[i] = joined(words[i], other.words[i], how);
            }
        }

        private static long joined(long mine, long others, int how) {
            switch (how) {
                case 0:
                    return mine | others;
                case 1:
                    return mine & others;
                case 2:
                    return mine & ~others;
                default:
                    return mine ^ others;
            }
        }
    }
}
