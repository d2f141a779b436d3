import java.math.BigInteger;
import java.util.ArrayList;
import java.util.Collections;
import java.util.IdentityHashMap;
import java.util.List;
import java.util.Map;
import java.util.NoSuchElementException;

/**
 * The document's words taken one by one, slowly: a solid is a tree of half-spaces, asked for points with exact
 * fractions. Where a solid is beside a point is asked of points very near to it; a line is asked in the middle
 * between the places where it meets planes.
 */
final class SlowModel {
    /** A fraction whose denominator is more than 0. */
    static final class Fraction implements Comparable<Fraction> {
        final BigInteger top;
        final BigInteger bottom;

        Fraction(BigInteger top, BigInteger bottom) {
            BigInteger divisor = top.gcd(bottom).multiply(BigInteger.valueOf(bottom.signum()));
            this.top = top.divide(divisor);
            this.bottom = bottom.divide(divisor);
        }

        static Fraction of(long top, long bottom) {
            return new Fraction(BigInteger.valueOf(top), BigInteger.valueOf(bottom));
        }

        Fraction plus(Fraction o) {
            return new Fraction(top.multiply(o.bottom).add(o.top.multiply(bottom)), bottom.multiply(o.bottom));
        }

        Fraction times(Fraction o) {
            return new Fraction(top.multiply(o.top), bottom.multiply(o.bottom));
        }

        Fraction minus(Fraction o) {
            return plus(o.times(of(-1, 1)));
        }

        Fraction over(Fraction o) {
            return new Fraction(top.multiply(o.bottom), bottom.multiply(o.top));
        }

        int sign() {
            return top.signum();
        }

        @Override
        public int compareTo(Fraction o) {
            return minus(o).sign();
        }
    }

    /** A plane's numbers a, b, c, d; its name is the same for all planes that have the same points. */
    private static final class Cut {
        final Fraction[] n = new Fraction[4];
        final String name;

        Cut(long a, long b, long c, long d) {
            long[] numbers = {a, b, c, d};
            StringBuilder text = new StringBuilder();
            Fraction lead = null;
            for (int i = 0; i < 4; i++) {
                n[i] = Fraction.of(numbers[i], 1);
                if (lead == null && n[i].sign() != 0) {
                    lead = n[i];
                }
            }
            for (int i = 0; i < 4; i++) {
                Fraction scaled = n[i].over(lead);
                text.append(scaled.top).append('/').append(scaled.bottom).append(' ');
            }
            name = text.toString();
        }

        int signAt(Fraction[] p) {
            Fraction sum = Fraction.of(0, 1).minus(n[3]);
            for (int i = 0; i < 3; i++) {
                sum = sum.plus(n[i].times(p[i]));
            }
            return sum.sign();
        }
    }

    /** A half-space (how -2), the whole box (-1), two shapes joined (0 .. 3), or what the first leaves (4). */
    private static final class Shape {
        final int how;
        final Shape first;
        final Shape second;
        final Cut cut;

        Shape(int how, Shape first, Shape second, Cut cut) {
            this.how = how;
            this.first = first;
            this.second = second;
            this.cut = cut;
        }
    }

    private static final Fraction NEAR = new Fraction(BigInteger.ONE, BigInteger.TEN.pow(40));

    private final List<Cut> box = new ArrayList<>();
    private final List<Cut> given = new ArrayList<>();
    private final List<Shape> stack = new ArrayList<>();

    SlowModel() {
        for (int axis = 0; axis < 3; axis++) {
            for (int sign = 1; sign >= -1; sign -= 2) {
                box.add(new Cut(axis == 0 ? sign : 0, axis == 1 ? sign : 0, axis == 2 ? sign : 0, 1000));
            }
        }
    }

    int plane(int a, int b, int c, int d) {
        boolean fit = Math.abs((long) a) <= 1000000 && Math.abs((long) b) <= 1000000
                && Math.abs((long) c) <= 1000000 && Math.abs((long) d) <= 1000000000;
        argument(fit && (a != 0 || b != 0 || c != 0));
        state(given.size() < 8);
        given.add(new Cut(a, b, c, d));
        return given.size() - 1;
    }

    int planes() {
        return given.size();
    }

    int convex(int set) {
        argument(set >= 0 && set < 1 << given.size());
        state(stack.size() < 6);
        Shape shape = new Shape(-1, null, null, null);
        for (int k = 0; k < given.size(); k++) {
            if ((set >> k & 1) == 1) {
                shape = new Shape(1, shape, new Shape(-2, null, null, given.get(k)), null);
            }
        }
        stack.add(shape);
        return stack.size();
    }

    int join(int how) {
        argument(how >= 0 && how <= 3);
        state(stack.size() >= 2);
        Shape b = stack.remove(stack.size() - 1);
        Shape a = stack.remove(stack.size() - 1);
        stack.add(new Shape(how, a, b, null));
        return stack.size();
    }

    int turn() {
        Shape top = top();
        stack.set(stack.size() - 1, new Shape(4, top, null, null));
        return 0;
    }

    int copy(int k) {
        if (k < 0 || k >= stack.size()) {
            throw new IndexOutOfBoundsException();
        }
        state(stack.size() < 6);
        stack.add(stack.get(stack.size() - 1 - k));
        return stack.size();
    }

    int drop() {
        top();
        stack.remove(stack.size() - 1);
        return stack.size();
    }

    int solids() {
        return stack.size();
    }

    int inside(int x, int y, int z, int w) {
        Fraction[] p = point(x, y, z, w);
        top();
        if (!through(p).isEmpty()) {
            return 2;
        }
        return has(p) ? 1 : 0;
    }

    int side(int x, int y, int z, int w) {
        Fraction[] p = point(x, y, z, w);
        top();
        List<Cut> cuts = through(p);
        element(names(cuts) == 1);
        Cut face = cuts.get(0);
        boolean less = has(pushed(p, face, NEAR.times(Fraction.of(-1, 1))));
        boolean more = has(pushed(p, face, NEAR));
        return (less ? 1 : 0) - (more ? 1 : 0);
    }

    int enters(int axis, int u, int v) {
        argument(axis >= 0 && axis <= 2 && Math.abs((long) u) <= 999 && Math.abs((long) v) <= 999);
        top();
        List<Fraction> meets = meets(axis, u, v);
        List<Fraction> asked = new ArrayList<>();
        asked.add(Fraction.of(-5000, 1));
        for (int i = 1; i < meets.size(); i++) {
            asked.add(meets.get(i - 1).plus(meets.get(i)).times(Fraction.of(1, 2)));
        }
        int entries = 0;
        boolean before = false;
        for (Fraction along : asked) {
            boolean now = has(onLine(axis, along, u, v));
            if (now && !before) {
                entries++;
            }
            before = now;
        }
        return entries;
    }

    /** Where the line meets planes within the box, in order; once each, also where planes that are one are met. */
    private List<Fraction> meets(int axis, int u, int v) {
        List<Fraction> meets = new ArrayList<>();
        for (Cut cut : all()) {
            Fraction[] origin = onLine(axis, Fraction.of(0, 1), u, v);
            if (cut.n[axis].sign() == 0) {
                element(cut.signAt(origin) != 0);
                continue;
            }
            Fraction rest = cut.n[3];
            for (int i = 0; i < 3; i++) {
                rest = rest.minus(cut.n[i].times(origin[i]));
            }
            Fraction along = rest.over(cut.n[axis]);
            if (along.compareTo(Fraction.of(1000, 1)) <= 0 && along.compareTo(Fraction.of(-1000, 1)) >= 0) {
                List<Cut> cuts = through(onLine(axis, along, u, v));
                element(names(cuts) == 1);
                if (cuts.get(0) == cut) {
                    meets.add(along);
                }
            }
        }
        Collections.sort(meets);
        return meets;
    }

    private static Fraction[] onLine(int axis, Fraction along, int u, int v) {
        Fraction[] p = new Fraction[3];
        p[axis] = along;
        p[axis == 0 ? 1 : 0] = Fraction.of(u, 1);
        p[axis == 2 ? 1 : 2] = Fraction.of(v, 1);
        return p;
    }

    private static Fraction[] pushed(Fraction[] p, Cut cut, Fraction by) {
        Fraction[] q = new Fraction[3];
        for (int i = 0; i < 3; i++) {
            q[i] = p[i].plus(cut.n[i].times(by));
        }
        return q;
    }

    private List<Cut> all() {
        List<Cut> all = new ArrayList<>(box);
        all.addAll(given);
        return all;
    }

    private List<Cut> through(Fraction[] p) {
        List<Cut> cuts = new ArrayList<>();
        for (Cut cut : all()) {
            if (cut.signAt(p) == 0) {
                cuts.add(cut);
            }
        }
        return cuts;
    }

    private static int names(List<Cut> cuts) {
        List<String> names = new ArrayList<>();
        for (Cut cut : cuts) {
            if (!names.contains(cut.name)) {
                names.add(cut.name);
            }
        }
        return names.size();
    }

    private boolean has(Fraction[] p) {
        for (Cut cut : box) {
            if (cut.signAt(p) > 0) {
                return false;
            }
        }
        return has(top(), p, new IdentityHashMap<>());
    }

    /** Copies share their parts, so that a part that was asked once must not be asked again. */
    private static boolean has(Shape shape, Fraction[] p, Map<Shape, Boolean> known) {
        Boolean before = known.get(shape);
        if (before != null) {
            return before;
        }
        boolean answer;
        if (shape.how == -2) {
            answer = shape.cut.signAt(p) <= 0;
        } else if (shape.how == -1) {
            answer = true;
        } else if (shape.how == 4) {
            answer = !has(shape.first, p, known);
        } else {
            boolean a = has(shape.first, p, known);
            boolean b = has(shape.second, p, known);
            answer = shape.how == 0 ? a || b : shape.how == 1 ? a && b : shape.how == 2 ? a && !b : a != b;
        }
        known.put(shape, answer);
        return answer;
    }

    private Shape top() {
        state(!stack.isEmpty());
        return stack.get(stack.size() - 1);
    }

    private static Fraction[] point(int x, int y, int z, int w) {
        argument(w >= 1 && w <= 1000 && Math.abs((long) x) <= 1000000 && Math.abs((long) y) <= 1000000
                && Math.abs((long) z) <= 1000000);
        return new Fraction[] {Fraction.of(x, w), Fraction.of(y, w), Fraction.of(z, w)};
    }

    private static void argument(boolean holds) {
        if (!holds) {
            throw new IllegalArgumentException();
        }
    }

    private static void state(boolean holds) {
        if (!holds) {
            throw new IllegalStateException();
        }
    }

    private static void element(boolean holds) {
        if (!holds) {
            throw new NoSuchElementException();
        }
    }
}
