import java.lang.reflect.Constructor;
import java.lang.reflect.Field;
import java.lang.reflect.Method;
import java.lang.reflect.Modifier;
import java.util.Arrays;
import java.util.TreeSet;

/** The public face is the document's, and nothing else shows. */
public final class FaceTest {
    private static final String[] FACE = {
        "feed int long", "book", "set int int", "glass int", "wet int", "run int", "now int", "air int",
        "full", "often int", "law int int", "stops int", "pegs int int", "widest int", "lifts int", "under",
        "without int", "larger int int", "together int", "drinks int", "goes int int int", "bestRoom int",
        "latest int", "dot int", "even int", "longer int", "slow int", "hour int", "gap int", "judge int",
        "driest int int", "sorts int int", "odds int int int int", "drafts int int", "image", "on", "count int"};

    public static void main(String[] args) {
        Due due = new Due("FaceTest");
        Class<?> c = BirdThatDrinks.class;
        due.isTrue("public final class", Modifier.isPublic(c.getModifiers()) && Modifier.isFinal(c.getModifiers()));
        due.isTrue("no superclass of its own", c.getSuperclass() == Object.class && c.getInterfaces().length == 0);
        Constructor<?>[] made = c.getDeclaredConstructors();
        due.isTrue("one public constructor without parameters",
            made.length == 1 && Modifier.isPublic(made[0].getModifiers()) && made[0].getParameterCount() == 0);
        TreeSet<String> shown = new TreeSet<>();
        TreeSet<String> publicNames = new TreeSet<>();
        for (Method m : c.getDeclaredMethods()) {
            if (Modifier.isPrivate(m.getModifiers()) || m.isSynthetic()) {
                continue;
            }
            StringBuilder face = new StringBuilder(m.getName());
            for (Class<?> p : m.getParameterTypes()) {
                face.append(' ').append(p.getName());
            }
            shown.add(face.toString());
            publicNames.add(m.getName());
            due.isTrue(m + " is a public method that answers an int",
                Modifier.isPublic(m.getModifiers()) && !Modifier.isStatic(m.getModifiers())
                    && m.getReturnType() == int.class);
        }
        due.isTrue("the face is " + shown, shown.equals(new TreeSet<>(Arrays.asList(FACE))));
        for (Field f : c.getDeclaredFields()) {
            due.isTrue(f + " is private", Modifier.isPrivate(f.getModifiers()));
        }
        for (Class<?> inside : c.getDeclaredClasses()) {
            due.isTrue(inside + " is static", Modifier.isStatic(inside.getModifiers()));
            due.isTrue(inside + " does not show", !Modifier.isPublic(inside.getModifiers())
                && !Modifier.isProtected(inside.getModifiers()));
            for (Method m : inside.getDeclaredMethods()) {
                due.isTrue(m + " bears no public name", !publicNames.contains(m.getName()));
            }
        }
        for (Method m : c.getDeclaredMethods()) {
            if (Modifier.isPrivate(m.getModifiers())) {
                due.isTrue(m + " bears no public name", !publicNames.contains(m.getName()));
            }
        }
        due.end();
    }
}
