import java.io.IOException;
import java.lang.reflect.Constructor;
import java.lang.reflect.Field;
import java.lang.reflect.Method;
import java.lang.reflect.Modifier;
import java.nio.file.Files;
import java.nio.file.Path;
import java.util.Arrays;
import java.util.Set;
import java.util.TreeSet;
import java.util.regex.Pattern;
import java.util.stream.Collectors;

/** The public face, and the rules of the language that can be looked up in the class and its text. */
public final class FaceTest {
    private static final Due DUE = new Due();
    private static final Set<String> FACE = Set.of(
        "int room(int,int,int,int,int)", "int box(int,int,int,int,int)", "int take(int)",
        "int door(int,int,int,int,int)", "int shut(int,boolean)",
        "int ledge(int,int,int,int,int,boolean)", "int ladder(int,int,int,int,int,int,int)",
        "int may(int,int,int)", "int see(int,int,int,int,int)", "int way(int,int,int,int,int,int)",
        "int bend(int,int)", "int reach(int,int,int)", "int walker(int,int,int)",
        "int go(int,int,int,int)", "int tick(int)", "int about(int,int)", "int count(int)",
        "long digest()");

    public static void main(String[] args) throws IOException {
        members();
        nested();
        text();
        methodsOfTheText();
        DUE.end();
    }

    private static void members() {
        Class<?> c = GroundKeeper.class;
        DUE.holds("the class is public and final", c.getModifiers() == (Modifier.PUBLIC | Modifier.FINAL));
        Set<String> seen = new TreeSet<>();
        Set<String> names = new TreeSet<>();
        for (Method m : c.getDeclaredMethods()) {
            if (!Modifier.isPrivate(m.getModifiers())) {
                DUE.holds(m.getName() + " is public and nothing else", m.getModifiers() == Modifier.PUBLIC);
                seen.add(told(m));
                names.add(m.getName());
            }
        }
        DUE.holds("the methods are the document's: " + seen, seen.equals(FACE));
        for (Method m : c.getDeclaredMethods()) {
            boolean hidden = Modifier.isPrivate(m.getModifiers());
            DUE.holds("no private method is named " + m.getName(), !hidden || !names.contains(m.getName()));
        }
        Set<String> constants = new TreeSet<>();
        for (Field f : c.getDeclaredFields()) {
            if (Modifier.isStatic(f.getModifiers())) {
                DUE.holds(f.getName() + " is final", Modifier.isFinal(f.getModifiers()));
            }
            if (!Modifier.isPrivate(f.getModifiers())) {
                constants.add(f.getName());
            }
        }
        DUE.holds("the constants are the document's", constants.equals(Set.of("NONE", "BAD", "NO", "FULL")));
        Constructor<?>[] made = c.getDeclaredConstructors();
        DUE.is("constructors", made.length, 1);
        DUE.holds("it is public and takes nothing",
            made[0].getParameterCount() == 0 && Modifier.isPublic(made[0].getModifiers()));
    }

    private static String told(Method m) {
        return m.getReturnType().getName() + " " + m.getName() + Arrays.stream(m.getParameterTypes())
            .map(Class::getName).collect(Collectors.joining(",", "(", ")"));
    }

    private static void nested() {
        Class<?>[] inside = GroundKeeper.class.getDeclaredClasses();
        DUE.holds("at most twelve classes", inside.length < 12);
        for (Class<?> c : inside) {
            String name = c.getSimpleName();
            DUE.holds(name + " is static", Modifier.isStatic(c.getModifiers()));
            DUE.holds(name + " is not public", !Modifier.isPublic(c.getModifiers()));
            long fields = Arrays.stream(c.getDeclaredFields()).filter(f -> !Modifier.isStatic(f.getModifiers())).count();
            DUE.holds(name + " has at most twenty fields", fields <= 20);
            for (Method m : c.getDeclaredMethods()) {
                DUE.holds(name + "." + m.getName() + " takes at most seven", m.getParameterCount() <= 7);
            }
        }
    }

    private static void text() throws IOException {
        String whole = Files.readString(Path.of("src/main/java/GroundKeeper.java"));
        DUE.holds("characters 0 to 255 alone", whole.chars().allMatch(c -> c < 256));
        String code = whole.replaceAll("(?s)/\\*.*?\\*/", " ").replaceAll("//[^\n]*", " ");
        for (String word : new String[] {"throw", "throws", "try", "catch", "finally", "synchronized",
            "assert", "import", "package", "native", "volatile", "transient", "Object", "System.out",
            "Exact", "sqrt", "random", "Thread", "hashCode", "equals", "toString"}) {
            DUE.holds("no " + word, !Pattern.compile("\\b" + Pattern.quote(word) + "\\b").matcher(code).find());
        }
        DUE.holds("no lambda", !code.contains("->"));
        DUE.holds("no method reference", !code.contains("::"));
        DUE.holds("no annotation", !code.contains("@"));
        DUE.holds("no loop without a bound", !Pattern.compile("while\\s*\\(\\s*true|for\\s*\\(\\s*;").matcher(code).find());
        for (String line : whole.split("\n")) {
            DUE.holds("a line of at most 110 characters: " + line, line.length() <= 110);
        }
    }

    /** Methods stay short, and objects are made in constructors alone: a run has little room. */
    private static void methodsOfTheText() throws IOException {
        Pattern constructor = Pattern.compile(" +(public )?[A-Z]\\w*\\([^)]*\\) \\{");
        Pattern method = Pattern.compile(" +(public |private |static )*[\\w\\[\\]]+ \\w+\\([^)]*\\) \\{");
        String header = "";
        boolean making = false;
        int lines = 0;
        int seen = 0;
        for (String line : Files.readAllLines(Path.of("src/main/java/GroundKeeper.java"))) {
            boolean begins = constructor.matcher(line).matches();
            boolean isMethod = !begins && method.matcher(line).matches() && !line.contains("else if");
            if (begins || isMethod) {
                header = line.trim();
                making = begins;
                lines = 0;
                seen++;
            }
            lines++;
            DUE.holds(header + " has at most sixty lines", lines <= 60 || !line.startsWith("        "));
            boolean makes = line.matches(".*\\bnew [A-Za-z].*") && !line.contains("*");
            DUE.holds("nothing is made in " + header, making || !makes);
        }
        DUE.holds("methods were seen", seen > 60);
    }
}
