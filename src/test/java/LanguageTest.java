import java.io.IOException;
import java.lang.reflect.Array;
import java.lang.reflect.Field;
import java.lang.reflect.InvocationTargetException;
import java.lang.reflect.Method;
import java.lang.reflect.Modifier;
import java.lang.reflect.Parameter;
import java.nio.file.Files;
import java.nio.file.Path;
import java.util.ArrayList;
import java.util.Arrays;
import java.util.Comparator;
import java.util.IdentityHashMap;
import java.util.LinkedHashMap;
import java.util.List;
import java.util.Map;
import java.util.Random;
import java.util.Set;
import java.util.TreeSet;
import java.util.regex.Matcher;
import java.util.regex.Pattern;

/** The rules of LANGUAGE.md from the first to the last, as far as a test can look them up. */
public final class LanguageTest {
    private static final Due DUE = new Due();
    private static final int[] WILD = {Integer.MIN_VALUE, -1, 0, 1, 2, 3, 5, 6, 7, 8, 9, 10, 11, 12, 50, 99,
        100, 101, 128, 1000000, 1000001, Integer.MAX_VALUE};

    private final String code;
    private final List<Class<?>> classes = new ArrayList<>();
    /** The text of each method and constructor, by its name; those of one name are put together. */
    private final Map<String, String> bodies = new LinkedHashMap<>();
    private final Set<String> constructors = new TreeSet<>();

    private LanguageTest() throws IOException {
        String whole = Files.readString(Path.of("src/main/java/GroundKeeper.java"));
        code = whole.replaceAll("(?s)/\\*.*?\\*/", " ").replaceAll("//[^\n]*", " ");
        classes.add(GroundKeeper.class);
        classes.addAll(Arrays.asList(GroundKeeper.class.getDeclaredClasses()));
        for (Class<?> c : classes) {
            constructors.add(c.getSimpleName());
        }
        readBodies();
        DUE.holds("characters 0 to 255 alone", whole.chars().allMatch(c -> c < 256));
    }

    public static void main(String[] args) throws IOException, ReflectiveOperationException {
        LanguageTest test = new LanguageTest();
        test.rule1Face();
        test.rule2Classes();
        test.rule3Types();
        test.rule4Library();
        test.rule5StaticFields();
        test.rule6Words();
        test.rule7NoCallThrows();
        test.rules8And11Depth();
        test.rule9Loops();
        test.rule10Texts();
        test.rule11Sizes();
        test.rule12Objects();
        test.rule13SameAnswers();
        DUE.end();
    }

    private void rule1Face() {
        DUE.holds("no package line", !has("package"));
        Matcher outside = Pattern.compile("(?m)^[a-z ]*\\b(class|interface|enum|record) ").matcher(code);
        DUE.is("classes outside", outside.results().filter(m -> !m.group().startsWith(" ")).count(), 1);
        for (Class<?> c : classes) {
            boolean inside = c != GroundKeeper.class;
            DUE.holds(c + " is not protected", !Modifier.isProtected(c.getModifiers()));
            DUE.holds(c + " inside is not public", !inside || !Modifier.isPublic(c.getModifiers()));
        }
    }

    private void rule2Classes() {
        for (Class<?> c : GroundKeeper.class.getDeclaredClasses()) {
            DUE.holds(c + " is static", Modifier.isStatic(c.getModifiers()));
            DUE.is(c + " has classes inside", c.getDeclaredClasses().length, 0);
        }
        DUE.holds("no anonymous class", !Pattern.compile("new \\w+\\([^)]*\\)\\s*\\{").matcher(code).find());
        for (String body : bodies.values()) {
            DUE.holds("no local class", !Pattern.compile("\\b(class|record|enum|interface)\\s").matcher(body).find());
        }
        DUE.holds("no lambda", !code.contains("->"));
        DUE.holds("no method reference", !code.contains("::"));
    }

    private void rule3Types() {
        for (Class<?> c : classes) {
            for (Field f : c.getDeclaredFields()) {
                DUE.holds(c + "." + f.getName() + " is of a type that is told", isTold(f.getType()));
            }
            for (Method m : c.getDeclaredMethods()) {
                DUE.holds(m + " answers a type that is told", m.getReturnType() == void.class || isTold(m.getReturnType()));
                for (Parameter p : m.getParameters()) {
                    DUE.holds(m + " takes types that are told", isTold(p.getType()));
                }
            }
        }
    }

    /** The program needs no more than these of the types that the rule leaves. */
    private boolean isTold(Class<?> type) {
        Class<?> plain = type.isArray() ? type.getComponentType() : type;
        return plain == int.class || plain == long.class || plain == boolean.class || classes.contains(plain);
    }

    private void rule4Library() {
        Set<String> library = new TreeSet<>();
        Matcher used = Pattern.compile("\\b([A-Z]\\w*)\\b(\\.\\w+)?").matcher(code);
        while (used.find()) {
            String name = used.group(1);
            boolean constant = name.equals(name.toUpperCase());
            if (!constant && !constructors.contains(name)) {
                library.add(used.group());
            }
        }
        DUE.holds("the library is Math's: " + library, Set.of("Math.max", "Math.min", "Math.abs").containsAll(library));
        DUE.holds("nothing is imported", !has("import"));
        DUE.holds("no annotation", !code.contains("@"));
    }

    private void rule5StaticFields() {
        for (Class<?> c : classes) {
            for (Field f : c.getDeclaredFields()) {
                if (Modifier.isStatic(f.getModifiers())) {
                    DUE.holds(f + " is final", Modifier.isFinal(f.getModifiers()));
                    DUE.holds(f + " is an int", f.getType() == int.class);
                }
            }
        }
        DUE.holds("no static block", !Pattern.compile("static\\s*\\{").matcher(code).find());
    }

    private void rule6Words() {
        for (String word : new String[] {"throw", "throws", "try", "catch", "finally", "synchronized", "assert",
            "instanceof", "native", "volatile", "transient", "goto", "super", "equals", "hashCode", "toString"}) {
            DUE.holds("no " + word, !has(word));
        }
    }

    /** Every method with wild numbers, on objects that have much and on objects that have little. */
    private void rule7NoCallThrows() throws ReflectiveOperationException {
        Random random = new Random(7);
        Method[] methods = methodsByName();
        for (int run = 0; run < 200; run++) {
            GroundKeeper ground = new GroundKeeper();
            if (run % 2 == 0) {
                fill(ground, random);
            }
            for (int i = 0; i < 300; i++) {
                askWildly(ground, methods[random.nextInt(methods.length)], random);
            }
        }
    }

    private static void askWildly(GroundKeeper ground, Method m, Random random) throws ReflectiveOperationException {
        Object[] given = new Object[m.getParameterCount()];
        for (int i = 0; i < given.length; i++) {
            boolean isNumber = m.getParameterTypes()[i] == int.class;
            given[i] = isNumber ? (Object) WILD[random.nextInt(WILD.length)] : (Object) random.nextBoolean();
        }
        try {
            m.invoke(ground, given);
            DUE.holds("answered", true);
        } catch (InvocationTargetException thrown) {
            DUE.holds(m.getName() + Arrays.toString(given) + " threw " + thrown.getCause(), false);
        }
    }

    /** Some of everything there is room for; some of the calls are refused, which is as well. */
    private static void fill(GroundKeeper ground, Random random) {
        for (int i = 0; i < 12; i++) {
            int x = random.nextInt(80);
            int y = random.nextInt(80);
            ground.room(i % 3, x, y, x + 20, y + 20);
            ground.box(i % 3, x + 5, y + 5, x + 9, y + 9);
            ground.door(i % 3, x, y + 10, x + 20, y + 10);
            ground.ledge(i % 3, x + 10, y, x + 10, y + 20, i % 2 == 0);
            ground.ladder(i % 3, x, y, (i + 1) % 3, y, x, i);
            ground.walker(i % 3, x, y);
        }
    }

    /** No method calls itself, not by others either, and no call goes more than eight deep. */
    private void rules8And11Depth() {
        DUE.holds("methods were seen: " + bodies.size(), bodies.size() > 60);
        for (String name : bodies.keySet()) {
            int depth = depthOf(name, 1);
            DUE.holds(name + " goes " + depth + " deep", depth <= 8);
        }
    }

    private int depthOf(String name, int above) {
        int deepest = 1;
        if (above > 40) {
            return above;
        }
        for (String called : calledBy(name)) {
            int below = bodies.containsKey(called) ? depthOf(called, above + 1) : 1;
            deepest = Math.max(deepest, 1 + below);
        }
        return deepest;
    }

    private Set<String> calledBy(String name) {
        Set<String> called = new TreeSet<>();
        Matcher m = Pattern.compile("(\\w+)\\(").matcher(bodies.get(name));
        while (m.find()) {
            boolean library = Set.of("max", "min", "abs").contains(m.group(1));
            if (library || bodies.containsKey(m.group(1))) {
                called.add(m.group(1));
            }
        }
        return called;
    }

    private void rule9Loops() {
        DUE.holds("no while", !has("while"));
        DUE.holds("no do", !has("do"));
        Matcher loop = Pattern.compile("\\bfor \\(([^;]*);([^;]*);([^{]*)\\) \\{").matcher(code);
        int loops = 0;
        while (loop.find()) {
            loops++;
            DUE.holds("a counter against a bound: " + loop.group(), loop.group(2).matches(".*(<|>=).*"));
        }
        Matcher all = Pattern.compile("\\bfor\\b").matcher(code);
        DUE.is("loops with a counter", loops, all.results().count());
    }

    private void rule10Texts() {
        DUE.holds("no text is joined, since there is none", code.indexOf('"') < 0);
    }

    private void rule11Sizes() {
        DUE.holds("at most twelve classes", classes.size() <= 12);
        for (Class<?> c : classes) {
            long fields = Arrays.stream(c.getDeclaredFields()).filter(f -> !Modifier.isStatic(f.getModifiers())).count();
            DUE.holds(c + " has at most twenty fields", fields <= 20);
            for (Method m : c.getDeclaredMethods()) {
                DUE.holds(m + " takes at most seven", m.getParameterCount() <= 7);
            }
        }
        for (Map.Entry<String, String> body : bodies.entrySet()) {
            DUE.holds(body.getKey() + " has at most sixty lines", body.getValue().lines().count() <= 60);
        }
        for (String line : code.split("\n")) {
            DUE.holds("a line of at most 110 characters: " + line, line.length() <= 110);
        }
    }

    /** A run has little room: what an object holds is made with it, and 512 calls add nothing to it. */
    private void rule12Objects() throws ReflectiveOperationException {
        for (Map.Entry<String, String> body : bodies.entrySet()) {
            boolean makes = Pattern.compile("\\bnew\\b").matcher(body.getValue()).find();
            DUE.holds("nothing is made in " + body.getKey(), !makes || constructors.contains(body.getKey()));
        }
        GroundKeeper ground = new GroundKeeper();
        IdentityHashMap<Object, Integer> before = new IdentityHashMap<>();
        measure(ground, before);
        long sizes = before.values().stream().mapToLong(n -> n).sum();
        DUE.holds("an object is made of " + before.size() + " objects", before.size() <= 100);
        DUE.holds("it holds " + sizes + " fields and elements", sizes <= 2000);
        Random random = new Random(12);
        fill(ground, random);
        Method[] methods = methodsByName();
        for (int i = 0; i < 400; i++) {
            askWildly(ground, methods[random.nextInt(methods.length)], random);
        }
        IdentityHashMap<Object, Integer> after = new IdentityHashMap<>();
        measure(ground, after);
        DUE.holds("512 calls put no object into it", before.keySet().containsAll(after.keySet()));
    }

    private static void measure(Object object, IdentityHashMap<Object, Integer> sizes) throws ReflectiveOperationException {
        if (object == null || sizes.containsKey(object)) {
            return;
        }
        if (object.getClass().isArray()) {
            int length = Array.getLength(object);
            sizes.put(object, length);
            for (int i = 0; i < length && object instanceof Object[] row; i++) {
                measure(row[i], sizes);
            }
            return;
        }
        int fields = 0;
        for (Field f : object.getClass().getDeclaredFields()) {
            if (!Modifier.isStatic(f.getModifiers())) {
                fields++;
            }
        }
        sizes.put(object, fields);
        for (Field f : object.getClass().getDeclaredFields()) {
            if (!Modifier.isStatic(f.getModifiers()) && !f.getType().isPrimitive()) {
                f.setAccessible(true);
                measure(f.get(object), sizes);
            }
        }
    }

    private void rule13SameAnswers() throws ReflectiveOperationException {
        Method[] methods = methodsByName();
        for (int seed = 0; seed < 20; seed++) {
            List<Object> first = answers(methods, seed);
            List<Object> second = answers(methods, seed);
            DUE.holds("the same calls give the same answers", first.equals(second));
        }
    }

    private static List<Object> answers(Method[] methods, int seed) throws ReflectiveOperationException {
        Random random = new Random(seed);
        GroundKeeper ground = new GroundKeeper();
        fill(ground, random);
        List<Object> answers = new ArrayList<>();
        for (int i = 0; i < 400; i++) {
            Method m = methods[random.nextInt(methods.length)];
            Object[] given = new Object[m.getParameterCount()];
            for (int k = 0; k < given.length; k++) {
                given[k] = m.getParameterTypes()[k] == int.class ? (Object) random.nextInt(12) : (Object) random.nextBoolean();
            }
            answers.add(m.invoke(ground, given));
        }
        answers.add(ground.digest());
        return answers;
    }

    /** In an order that does not depend on the machine. */
    private static Method[] methodsByName() {
        return Arrays.stream(GroundKeeper.class.getDeclaredMethods())
            .filter(m -> Modifier.isPublic(m.getModifiers()))
            .sorted(Comparator.comparing(Method::getName)).toArray(Method[]::new);
    }

    private boolean has(String word) {
        return Pattern.compile("\\b" + word + "\\b").matcher(code).find();
    }

    private void readBodies() {
        Matcher header = Pattern.compile(
            "(?m)^ +(?:(?:public|private|static|final) )*(?:[\\w\\[\\]]+ )?(\\w+)\\([^()]*\\) \\{$").matcher(code);
        while (header.find()) {
            if (!Set.of("if", "for", "switch").contains(header.group(1))) {
                bodies.merge(header.group(1), bodyFrom(header.end()), (a, b) -> a + b);
            }
        }
    }

    private String bodyFrom(int begin) {
        int depth = 1;
        int i = begin;
        while (i < code.length() && depth > 0) {
            char c = code.charAt(i);
            depth += c == '{' ? 1 : c == '}' ? -1 : 0;
            i++;
        }
        return code.substring(begin, i);
    }
}
