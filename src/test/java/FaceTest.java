import java.lang.reflect.Constructor;
import java.lang.reflect.Field;
import java.lang.reflect.Method;
import java.lang.reflect.Modifier;
import java.util.Set;
import java.util.TreeSet;

/** The document's public face, and no other member that can be seen from outside. */
public final class FaceTest {
    private static final String[] FACE = {
        "put 2", "drop 1", "get 1", "next 1", "flush 0", "count 1", "segment 2", "row 3", "full 1", "due 0",
        "cheapest 1", "worst 0", "begin 2", "step 1", "stop 0", "merging 1", "moved 2", "view 0", "seen 2",
        "shut 1", "share 0"
    };

    public static void main(String[] args) {
        Class<?> face = SegmentMerges.class;
        Check.due("public and final", face.getModifiers(), Modifier.PUBLIC | Modifier.FINAL);
        methods(face);
        for (Constructor<?> c : face.getDeclaredConstructors()) {
            Check.due("a constructor is public", Modifier.isPublic(c.getModifiers()) ? 1 : 0, 1);
            Check.due("a constructor's parameters", c.getParameterCount(), 0);
        }
        for (Field f : face.getDeclaredFields()) {
            Check.due(f.getName() + " is private", Modifier.isPrivate(f.getModifiers()) ? 1 : 0, 1);
            boolean changing = Modifier.isStatic(f.getModifiers()) && !Modifier.isFinal(f.getModifiers());
            Check.due(f.getName() + " is no changing static field", changing ? 1 : 0, 0);
        }
        Check.finish();
    }

    private static void methods(Class<?> face) {
        Set<String> due = new TreeSet<>(Set.of(FACE));
        Set<String> names = new TreeSet<>();
        for (Method m : face.getDeclaredMethods()) {
            if (Modifier.isPrivate(m.getModifiers())) {
                names.add(m.getName());
                continue;
            }
            String told = m.getName() + " " + m.getParameterCount();
            Check.due(told + " is of the face", due.remove(told) ? 1 : 0, 1);
            Check.due(told + " answers int", m.getReturnType() == int.class ? 1 : 0, 1);
            Check.due(told + " is public", m.getModifiers(), Modifier.PUBLIC);
            boolean throwing = m.getExceptionTypes().length == 1
                    && m.getExceptionTypes()[0] == ArithmeticException.class;
            Check.due(told + " tells what it throws", throwing ? 1 : 0, m.getName().equals("share") ? 1 : 0);
        }
        Check.due("missing of the face: " + due, due.size(), 0);
        for (String told : FACE) {
            String name = told.substring(0, told.indexOf(' '));
            Check.due("a private method named " + name, names.contains(name) ? 1 : 0, 0);
        }
    }
}
