import java.lang.reflect.Constructor;
import java.lang.reflect.Field;
import java.lang.reflect.Method;
import java.lang.reflect.Modifier;
import java.util.Set;
import java.util.TreeSet;

/** The public face is the document's, no more and no less. */
public final class FaceTest {
    private static final String[] FACE = {"bars(int)int", "bay(int,int)int", "best(int,int)int", "count(int)int",
        "day(int,int,int)int", "depth(int,int)boolean", "fault()int", "feed(int,int,int,int,int)int",
        "gather(int,int)int", "lasts()int", "law(int)int", "mill(int,int)int", "probe(int,int)int",
        "read(int,int)boolean", "ridge(int)boolean", "stack()int", "stackOf(int,int)int", "tells(int,int)int",
        "track(int)int", "want(int)boolean"};

    public static void main(String[] args) {
        Class<?> c = PeatBog.class;
        Due.due("public and final", Modifier.isPublic(c.getModifiers()) && Modifier.isFinal(c.getModifiers()), true);
        Due.due("NONE", PeatBog.NONE, -1);
        Set<String> seen = new TreeSet<>();
        Set<String> names = new TreeSet<>();
        for (Method m : c.getDeclaredMethods()) {
            if (!Modifier.isPrivate(m.getModifiers())) {
                StringBuilder text = new StringBuilder(m.getName()).append('(');
                for (Class<?> p : m.getParameterTypes()) {
                    text.append(text.charAt(text.length() - 1) == '(' ? "" : ",").append(p);
                }
                seen.add(text.append(')').append(m.getReturnType()).toString());
                names.add(m.getName());
            }
        }
        Due.due("the methods", seen.equals(new TreeSet<>(Set.of(FACE))), true);
        for (Field f : c.getDeclaredFields()) {
            boolean isPrivate = Modifier.isPrivate(f.getModifiers());
            Due.due("field " + f.getName(), isPrivate || f.getName().equals("NONE"), true);
        }
        for (Method m : c.getDeclaredMethods()) {
            if (Modifier.isPrivate(m.getModifiers())) {
                Due.due("private " + m.getName(), names.contains(m.getName()), false);
            }
        }
        Constructor<?>[] constructors = c.getDeclaredConstructors();
        Due.due("constructors", constructors.length, 1);
        Due.due("without parameters", constructors[0].getParameterCount(), 0);
        Due.finish();
    }
}
