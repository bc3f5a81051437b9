import java.io.IOException;
import java.lang.reflect.Method;
import java.nio.file.Files;
import java.nio.file.Path;
import java.util.ArrayList;
import java.util.Arrays;
import java.util.List;
import java.util.Set;
import java.util.TreeSet;
import java.util.regex.Matcher;
import java.util.regex.Pattern;
import java.util.stream.Collectors;
import java.util.stream.Stream;

/** README.md: the run of calls that it shows, the answers below 0, and the tests that it names. */
public final class ReadmeTest {
    private static final Due DUE = new Due();
    private static final Pattern CALL = Pattern.compile("ground\\.(\\w+)\\(([^)]*)\\); +// (-?\\d+): .+");
    private static final String MAKES = "GroundKeeper ground = new GroundKeeper();";

    public static void main(String[] args) throws IOException, ReflectiveOperationException {
        String readme = Files.readString(Path.of("README.md"));
        theRun(readme);
        answersBelowZero(readme);
        howTestsAreRun(readme);
        DUE.end();
    }

    private static void theRun(String readme) throws ReflectiveOperationException {
        List<String> lines = runLines(readme);
        DUE.holds("the run makes an object first", !lines.isEmpty() && lines.get(0).equals(MAKES));
        GroundKeeper ground = new GroundKeeper();
        Set<String> shown = new TreeSet<>();
        for (String line : lines.subList(Math.min(1, lines.size()), lines.size())) {
            Matcher call = CALL.matcher(line);
            boolean understood = call.matches();
            DUE.holds("a call with its answer: " + line, understood);
            if (understood) {
                shown.add(call.group(1));
                DUE.is(line, ask(ground, call.group(1), call.group(2)), Long.parseLong(call.group(3)));
            }
        }
        DUE.holds("the run shows every method: " + shown, shown.equals(methodNames()));
    }

    /** The lines of the one block in Java, but for empty ones and those that are remarks alone. */
    private static List<String> runLines(String readme) {
        Matcher block = Pattern.compile("(?s)```java\n(.*?)```").matcher(readme);
        List<String> lines = new ArrayList<>();
        int blocks = 0;
        while (block.find()) {
            blocks++;
            block.group(1).lines().filter(l -> !l.isBlank() && !l.startsWith("//")).forEach(lines::add);
        }
        DUE.is("blocks in Java", blocks, 1);
        return lines;
    }

    private static long ask(GroundKeeper ground, String name, String told) throws ReflectiveOperationException {
        String[] words = told.isEmpty() ? new String[0] : told.split(", ");
        for (Method m : GroundKeeper.class.getDeclaredMethods()) {
            if (m.getName().equals(name) && m.getParameterCount() == words.length) {
                Object[] given = new Object[words.length];
                for (int i = 0; i < words.length; i++) {
                    boolean isNumber = m.getParameterTypes()[i] == int.class;
                    given[i] = isNumber ? (Object) Integer.valueOf(words[i]) : Boolean.valueOf(words[i]);
                }
                return ((Number) m.invoke(ground, given)).longValue();
            }
        }
        DUE.holds("there is a method " + name + " that takes " + words.length, false);
        return Long.MIN_VALUE;
    }

    private static Set<String> methodNames() {
        return Arrays.stream(GroundKeeper.class.getMethods())
            .filter(m -> m.getDeclaringClass() == GroundKeeper.class)
            .map(Method::getName).collect(Collectors.toCollection(TreeSet::new));
    }

    private static void answersBelowZero(String readme) {
        DUE.holds("NONE", readme.contains("| " + GroundKeeper.NONE + " | `NONE` |"));
        DUE.holds("BAD", readme.contains("| " + GroundKeeper.BAD + " | `BAD` |"));
        DUE.holds("NO", readme.contains("| " + GroundKeeper.NO + " | `NO` |"));
        DUE.holds("FULL", readme.contains("| " + GroundKeeper.FULL + " | `FULL` |"));
        DUE.holds("a shut door", readme.contains("| -10 | | `see`:"));
        DUE.holds("a ledge", readme.contains("| -11 | | `see`:"));
    }

    private static void howTestsAreRun(String readme) throws IOException {
        DUE.holds(".ci/run is told", readme.contains("```sh\n.ci/run\n```"));
        DUE.holds(".ci/run can be run", Files.isExecutable(Path.of(".ci/run")));
        DUE.holds("the shared tests are told", readme.contains("`../shared/tests`"));
        try (Stream<Path> files = Files.list(Path.of("src/test/java"))) {
            for (Path file : files.filter(f -> f.toString().endsWith("Test.java")).toList()) {
                DUE.holds(file + " is told", readme.contains("`" + file.toString().replace('\\', '/') + "`"));
            }
        }
        Matcher told = Pattern.compile("`(src/[\\w/]+\\.java)`").matcher(readme);
        while (told.find()) {
            DUE.holds(told.group(1) + " is there", Files.exists(Path.of(told.group(1))));
        }
    }
}
