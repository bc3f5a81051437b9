import java.lang.reflect.Constructor;
import java.lang.reflect.Field;
import java.lang.reflect.Method;
import java.lang.reflect.Modifier;
import java.util.Arrays;
import java.util.Set;
import java.util.TreeSet;
import java.util.stream.Collectors;

/** The public face: what the document tells of it, and nothing beside that. */
public final class FaceTest {
    private static final Due DUE = new Due();
    private static final Set<String> FACE = Set.of(
        "int room(int,int,int,int,int)", "int box(int,int,int,int,int)", "int take(int)",
        "int door(int,int,int,int,int)", "int shut(int,boolean)",
        "int ledge(int,int,int,int,int,boolean)", "int ladder(int,int,int,int,int,int,int)",
        "int may(int,int,int)", "int see(int,int,int,int,int)", "int way(int,int,int,int,int,int)",
        "int bend(int,int)", "int reach(int,int,int)", "int walker(int,int,int)",
        "int go(int,int,int,int)", "int tick(int)", "int about(int,int)", "int count(int)",
        "long digest()");

    public static void main(String[] args) {
        members();
        DUE.end();
    }

    private static void members() {
        Class<?> c = GroundKeeper.class;
        DUE.holds("the class is public and final", c.getModifiers() == (Modifier.PUBLIC | Modifier.FINAL));
        Set<String> seen = new TreeSet<>();
        Set<String> names = new TreeSet<>();
        for (Method m : c.getDeclaredMethods()) {
            if (!Modifier.isPrivate(m.getModifiers())) {
                DUE.holds(m.getName() + " is public and nothing else", m.getModifiers() == Modifier.PUBLIC);
                seen.add(told(m));
                names.add(m.getName());
            }
        }
        DUE.holds("the methods are the document's: " + seen, seen.equals(FACE));
        for (Method m : c.getDeclaredMethods()) {
            boolean hidden = Modifier.isPrivate(m.getModifiers());
            DUE.holds("no private method is named " + m.getName(), !hidden || !names.contains(m.getName()));
        }
        Set<String> constants = new TreeSet<>();
        for (Field f : c.getDeclaredFields()) {
            if (Modifier.isStatic(f.getModifiers())) {
                DUE.holds(f.getName() + " is final", Modifier.isFinal(f.getModifiers()));
            }
            if (!Modifier.isPrivate(f.getModifiers())) {
                constants.add(f.getName());
            }
        }
        DUE.holds("the constants are the document's", constants.equals(Set.of("NONE", "BAD", "NO", "FULL")));
        DUE.is("NONE", GroundKeeper.NONE, -1);
        DUE.is("BAD", GroundKeeper.BAD, -2);
        DUE.is("NO", GroundKeeper.NO, -3);
        DUE.is("FULL", GroundKeeper.FULL, -4);
        Constructor<?>[] made = c.getDeclaredConstructors();
        DUE.is("constructors", made.length, 1);
        DUE.holds("it is public and takes nothing",
            made[0].getParameterCount() == 0 && Modifier.isPublic(made[0].getModifiers()));
    }

    private static String told(Method m) {
        return m.getReturnType().getName() + " " + m.getName() + Arrays.stream(m.getParameterTypes())
            .map(Class::getName).collect(Collectors.joining(",", "(", ")"));
    }
}
