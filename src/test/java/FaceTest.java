import java.lang.reflect.Constructor;
import java.lang.reflect.Field;
import java.lang.reflect.Method;
import java.lang.reflect.Modifier;
import java.util.Arrays;
import java.util.Set;
import java.util.TreeSet;

/** The public face: what the document lists, and no other member that is not private (LANGUAGE.md, rules 1 and 5). */
public final class FaceTest {
    private static final String[] FACE = {
        "public CarvedSolids()",
        "public final int OUTSIDE", "public final int INSIDE", "public final int ON",
        "public int plane(int,int,int,int) throws IllegalArgumentException,IllegalStateException",
        "public int planes()",
        "public int convex(int) throws IllegalArgumentException,IllegalStateException",
        "public int join(int) throws IllegalArgumentException,IllegalStateException",
        "public void turn() throws IllegalStateException",
        "public int copy(int) throws IndexOutOfBoundsException,IllegalStateException",
        "public int drop() throws IllegalStateException",
        "public int solids()",
        "public int inside(int,int,int,int) throws IllegalArgumentException,IllegalStateException",
        "public int side(int,int,int,int)"
            + " throws IllegalArgumentException,IllegalStateException,java.util.NoSuchElementException",
        "public int enters(int,int,int)"
            + " throws IllegalArgumentException,IllegalStateException,java.util.NoSuchElementException",
    };

    public static void main(String[] args) {
        Check check = new Check("FaceTest");
        Set<String> want = new TreeSet<>(Arrays.asList(FACE));
        check.dueText(1, "the face", want.toString(), seen().toString());
        check.dueText(1, "the class", "public final", Modifier.toString(CarvedSolids.class.getModifiers()));
        check.due(10, "OUTSIDE", 0, () -> CarvedSolids.OUTSIDE);
        check.due(10, "INSIDE", 1, () -> CarvedSolids.INSIDE);
        check.due(10, "ON", 2, () -> CarvedSolids.ON);
        for (Class<?> inner : CarvedSolids.class.getDeclaredClasses()) {
            check.dueText(1, inner.getSimpleName() + " is private and static", "private static final",
                    Modifier.toString(inner.getModifiers()));
            staticFieldsAreFinal(check, inner);
        }
        staticFieldsAreFinal(check, CarvedSolids.class);
        check.end();
    }

    private static Set<String> seen() {
        Set<String> seen = new TreeSet<>();
        for (Constructor<?> c : CarvedSolids.class.getDeclaredConstructors()) {
            keep(seen, c.getModifiers(), c.toString());
        }
        for (Field f : CarvedSolids.class.getDeclaredFields()) {
            keep(seen, f.getModifiers(), f.toString());
        }
        for (Method m : CarvedSolids.class.getDeclaredMethods()) {
            keep(seen, m.getModifiers(), m.toString());
        }
        return seen;
    }

    private static void keep(Set<String> seen, int modifiers, String text) {
        if (!Modifier.isPrivate(modifiers)) {
            seen.add(text.replace("java.lang.", "").replace("CarvedSolids.", "").replace("static ", ""));
        }
    }

    private static void staticFieldsAreFinal(Check check, Class<?> type) {
        for (Field f : type.getDeclaredFields()) {
            if (Modifier.isStatic(f.getModifiers())) {
                check.dueText(1, f + " is final", "true", Boolean.toString(Modifier.isFinal(f.getModifiers())));
            }
        }
    }
}
