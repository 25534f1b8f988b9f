import java.io.IOException;
import java.lang.reflect.Method;
import java.lang.reflect.Modifier;
import java.nio.file.Files;
import java.nio.file.Path;
import java.util.Arrays;
import java.util.LinkedHashSet;
import java.util.List;
import java.util.Map;
import java.util.Set;
import java.util.TreeMap;
import java.util.TreeSet;
import java.util.regex.Matcher;
import java.util.regex.Pattern;
import java.util.stream.Stream;

/** Whether README.md is true of the class and of the tests. Arguments: README.md, the directory of the tests. */
public final class ReadmeTest {
    private static final Map<String, Integer> CONSTANTS = Map.of("UNKNOWN", CrowdLaws.UNKNOWN, "BAD", CrowdLaws.BAD,
            "STATE", CrowdLaws.STATE, "FULL", CrowdLaws.FULL, "SPENT", CrowdLaws.SPENT, "NONE", CrowdLaws.NONE);
    private static final int[] MANY = {-9, -1, 0, 1, 2, 3, 5, 6, 8, 9, 12, 51, 100, 100000};
    private static final int[] FEW = {-1, 0, 1, 9, 100000};

    private static int wrong = 0;

    public static void main(String[] args) throws IOException, ReflectiveOperationException {
        List<String> lines = Files.readAllLines(Path.of(args[0]));
        examples(lines);
        constants(lines);
        calls(lines);
        namedTests(String.join("\n", lines), Path.of(args[1]));
        if (wrong != 0) {
            System.exit(1);
        }
        System.out.println("readme: all is true");
    }

    private static void fault(String text) {
        wrong++;
        System.out.println("readme: " + text);
    }

    /** In each example each call tells what it answers. */
    private static void examples(List<String> lines) throws ReflectiveOperationException {
        Pattern call = Pattern.compile("x\\.(\\w+)\\(([-\\d, ]*)\\);\\s+// (-?\\d+|[A-Z]+):.*");
        boolean isExample = false;
        int asked = 0;
        CrowdLaws x = null;
        for (String line : lines) {
            Matcher matcher = call.matcher(line);
            if (line.startsWith("```")) {
                isExample = line.equals("```java");
            } else if (isExample && line.startsWith("CrowdLaws x = new CrowdLaws();")) {
                x = new CrowdLaws();
            } else if (isExample && x != null && matcher.matches()) {
                asked++;
                int due = CONSTANTS.containsKey(matcher.group(3)) ? CONSTANTS.get(matcher.group(3))
                        : Integer.parseInt(matcher.group(3));
                int got = answer(x, method(matcher.group(1)), numbers(matcher.group(2)));
                if (got != due) {
                    fault("answered " + got + ": " + line);
                }
            } else if (isExample) {
                fault("no call with its answer: " + line);
            }
        }
        if (asked == 0) {
            fault("no example");
        }
    }

    private static int[] numbers(String told) {
        return told.isEmpty() ? new int[0] : Arrays.stream(told.split(", ")).mapToInt(Integer::parseInt).toArray();
    }

    private static Method method(String name) throws NoSuchMethodException {
        for (Method method : CrowdLaws.class.getMethods()) {
            if (method.getName().equals(name) && method.getDeclaringClass() == CrowdLaws.class) {
                return method;
            }
        }
        throw new NoSuchMethodException(name);
    }

    private static int answer(CrowdLaws x, Method method, int[] arguments) throws ReflectiveOperationException {
        return (Integer) method.invoke(x, Arrays.stream(arguments).boxed().toArray());
    }

    private static void constants(List<String> lines) {
        Pattern row = Pattern.compile("\\| `([A-Z]+)` \\| (-\\d) \\|.*");
        Map<String, Integer> told = new TreeMap<>();
        for (String line : lines) {
            Matcher matcher = row.matcher(line);
            if (matcher.matches()) {
                told.put(matcher.group(1), Integer.parseInt(matcher.group(2)));
            }
        }
        if (!told.equals(CONSTANTS)) {
            fault("the constants are " + told);
        }
    }

    /** The table has each call, and for each call by what it is refused, and whether it answers NONE. */
    private static void calls(List<String> lines) throws ReflectiveOperationException {
        Pattern row = Pattern.compile("\\| `(\\w+)\\(([\\w, ]*)\\)` \\| (.*) \\| (.*) \\|");
        Set<String> told = new TreeSet<>();
        for (String line : lines) {
            Matcher matcher = row.matcher(line);
            if (matcher.matches()) {
                Method method = method(matcher.group(1));
                told.add(method.getName());
                int parameters = matcher.group(2).isEmpty() ? 0 : matcher.group(2).split(", ").length;
                if (parameters != method.getParameterCount()) {
                    fault("other arguments: " + line);
                    continue;
                }
                Set<String> named = constantsIn(matcher.group(4));
                first(method, named);
                if (constantsIn(matcher.group(3)).contains("NONE")) {
                    named.add("NONE");
                }
                Set<String> answered = answersBelowZero(method);
                if (!named.equals(answered)) {
                    fault("answers " + answered + ": " + line);
                }
            }
        }
        Set<String> face = new TreeSet<>();
        for (Method method : CrowdLaws.class.getDeclaredMethods()) {
            if (Modifier.isPublic(method.getModifiers())) {
                face.add(method.getName());
            }
        }
        if (!told.equals(face)) {
            fault("the calls are " + told);
        }
    }

    /** A new object refuses -1, -1, .. by all that it could refuse it by, so by the first in the row. */
    private static void first(Method method, Set<String> named) throws ReflectiveOperationException {
        int[] none = new int[method.getParameterCount()];
        Arrays.fill(none, -1);
        String got = nameOf(answer(new CrowdLaws(), method, none));
        if (named.size() > 1 && !named.iterator().next().equals(got)) {
            fault("refused by " + got + " first: " + method.getName());
        }
    }

    private static Set<String> constantsIn(String text) {
        Set<String> names = new LinkedHashSet<>();
        Matcher matcher = Pattern.compile("`([A-Z]+)`").matcher(text);
        while (matcher.find()) {
            names.add(matcher.group(1));
        }
        return names;
    }

    /** What a call answers below 0, whatever it is told, of some objects of which each is good for other refusals. */
    private static Set<String> answersBelowZero(Method method) throws ReflectiveOperationException {
        int[] values = method.getParameterCount() > 2 ? FEW : MANY;
        int ways = 1;
        for (int i = 0; i < method.getParameterCount(); i++) {
            ways *= values.length;
        }
        Set<String> names = new LinkedHashSet<>();
        for (int way = 0; way < ways; way++) {
            int[] arguments = new int[method.getParameterCount()];
            int left = way;
            for (int i = 0; i < arguments.length; i++) {
                arguments[i] = values[left % values.length];
                left /= values.length;
            }
            for (CrowdLaws x : List.of(new CrowdLaws(), searched(), Asking.rich(), Asking.full(), Asking.spent())) {
                int got = answer(x, method, arguments);
                if (got < 0) {
                    names.add(nameOf(got));
                }
            }
        }
        return names;
    }

    private static CrowdLaws searched() {
        CrowdLaws x = new CrowdLaws();
        x.search();
        return x;
    }

    private static String nameOf(int constant) {
        for (Map.Entry<String, Integer> entry : CONSTANTS.entrySet()) {
            if (entry.getValue() == constant) {
                return entry.getKey();
            }
        }
        return "" + constant;
    }

    private static void namedTests(String readme, Path directory) throws IOException {
        Set<String> named = new TreeSet<>();
        Matcher matcher = Pattern.compile("`(\\w+Test)`").matcher(readme);
        while (matcher.find()) {
            named.add(matcher.group(1));
        }
        Set<String> there = new TreeSet<>();
        try (Stream<Path> files = Files.list(directory)) {
            for (Path file : files.toList()) {
                String name = file.getFileName().toString();
                if (name.endsWith("Test.java")) {
                    there.add(name.substring(0, name.length() - ".java".length()));
                }
            }
        }
        if (!named.equals(there)) {
            fault("names the tests " + named + ", there are " + there);
        }
    }
}
