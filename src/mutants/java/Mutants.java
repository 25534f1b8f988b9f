import java.io.IOException;
import java.nio.file.Files;
import java.nio.file.Path;
import java.util.ArrayList;
import java.util.Collections;
import java.util.Comparator;
import java.util.LinkedHashSet;
import java.util.List;
import java.util.Map;
import java.util.Set;
import java.util.TreeMap;
import java.util.TreeSet;
import java.util.concurrent.ExecutorService;
import java.util.concurrent.Executors;
import java.util.concurrent.Future;
import java.util.concurrent.TimeUnit;
import java.util.regex.Matcher;
import java.util.regex.Pattern;
import java.util.stream.Stream;
import javax.tools.ToolProvider;

/**
 * By hand: breaks the class in one place at a time and runs SentencesTest on each broken one. Tells which changes no test
 * sees, and for each test by how many changes it fails, and how few tests fail by the narrowest of these. README.md tells how to run it; .ci/run doesn't.
 */
public final class Mutants {
    private static final String[][] SWAPS = {
        {" < ", " <= "}, {" <= ", " < "}, {" > ", " >= "}, {" >= ", " > "}, {" < ", " >= "}, {" > ", " <= "}, {" == ", " != "},
        {" != ", " == "}, {" && ", " || "}, {" || ", " && "}, {" + ", " - "}, {" - ", " + "}, {" * ", " + "}, {" / ", " * "},
        {" % ", " / "}, {"++", "--"}, {"--", "++"}, {" += ", " -= "}, {" -= ", " += "}, {" += ", " = "}, {"<<", ">>"}, {" >> ", " << "},
        {"true", "false"}, {"false", "true"}, {"Math.max", "Math.min"}, {"return BAD;", "return UNKNOWN;"},
        {"return UNKNOWN;", "return BAD;"}, {"return FULL;", "return BAD;"}, {"return STATE;", "return UNKNOWN;"},
        {"return NONE;", "return 0;"}, {": UNKNOWN;", ": BAD;"}, {"break;", "return;"}, {"!", ""}};

    // What a call that only asks, or is refused, must not do.
    private static final String[] INSERTS = {"backward.forget();", "hand.clear();", "hand.add(0, 1);", "laws.startSet = 1;",
        "laws.badCount = 0;", "laws.ruleCount = Math.max(0, laws.ruleCount - 1);", "laws.rules[0].needed = NONE;"};

    private final String source;
    private final Path tests;
    private final Path room;
    private final String document;

    private Mutants(String source, Path tests, Path room, String document) {
        this.source = source;
        this.tests = tests;
        this.room = room;
        this.document = document;
    }

    /** Where it stands, and the whole source with the change. */
    private record Mutant(String name, String source) {
    }

    /** CLASSES (of the tests, compiled), CrowdLaws.java, DOC.md. */
    public static void main(String[] args) throws Exception {
        Path room = Files.createTempDirectory("mutants");
        new Mutants(Files.readString(Path.of(args[1])), Path.of(args[0]), room, args[2]).go();
        try (Stream<Path> all = Files.walk(room)) {
            all.sorted(Comparator.reverseOrder()).forEach(path -> path.toFile().delete());
        }
    }

    private void go() throws Exception {
        List<Mutant> mutants = mutants();
        ExecutorService workers = Executors.newFixedThreadPool(Runtime.getRuntime().availableProcessors());
        List<Future<Set<String>>> answers = new ArrayList<>();
        for (int i = 0; i < mutants.size(); i++) {
            Mutant mutant = mutants.get(i);
            Path place = Files.createDirectory(room.resolve("" + i));
            answers.add(workers.submit(() -> failures(mutant, place)));
        }
        Map<String, List<Integer>> company = new TreeMap<>();
        int seen = 0, unseen = 0, none = 0;
        for (int i = 0; i < mutants.size(); i++) {
            Set<String> failed = answers.get(i).get();
            if (failed == null) {
                none++;
            } else if (failed.isEmpty()) {
                unseen++;
                System.out.println("UNSEEN " + mutants.get(i).name);
            } else {
                seen++;
                System.out.println("SEEN " + failed.size() + " " + mutants.get(i).name + " " + failed.stream().limit(3).toList());
            }
            for (String test : failed == null ? Set.<String>of() : failed) {
                company.computeIfAbsent(test, name -> new ArrayList<>()).add(failed.size());
            }
        }
        workers.shutdown();
        for (String test : testNames()) {
            List<Integer> tests = company.get(test);
            System.out.println(tests == null ? "NEVER FAILS " + test
                    : "FAILS BY " + tests.size() + " NARROWEST " + Collections.min(tests) + " " + test);
        }
        System.out.println(seen + " seen, " + unseen + " unseen, " + none + " don't compile");
    }

    private Set<String> testNames() throws IOException {
        Set<String> names = new TreeSet<>();
        Pattern test = Pattern.compile("static void (\\w+_\\w+_\\w+)\\(\\)");
        try (Stream<Path> files = Files.list(Path.of("src/test/java"))) {
            for (Path file : files.toList()) {
                Matcher matcher = test.matcher(Files.readString(file));
                while (matcher.find()) {
                    names.add(matcher.group(1));
                }
            }
        }
        return names;
    }

    private List<Mutant> mutants() {
        Set<String> known = new LinkedHashSet<>();
        List<Mutant> all = new ArrayList<>();
        String[] lines = source.split("\n", -1);
        int at = 0;
        for (int i = 0; i < lines.length; i++) {
            String line = lines[i];
            String code = line.trim();
            if (!code.startsWith("/") && !code.startsWith("*")) {
                for (String change : changes(line)) {
                    String whole = source.substring(0, at) + change + source.substring(at + line.length());
                    if (known.add(whole)) {
                        all.add(new Mutant((i + 1) + ": " + code + "  ->  " + change.trim(), whole));
                    }
                }
            }
            at += line.length() + 1;
        }
        return all;
    }

    private static List<String> changes(String line) {
        List<String> all = new ArrayList<>();
        for (String[] swap : SWAPS) {
            for (int at = line.indexOf(swap[0]); at >= 0; at = line.indexOf(swap[0], at + 1)) {
                all.add(line.substring(0, at) + swap[1] + line.substring(at + swap[0].length()));
            }
        }
        Matcher number = Pattern.compile("(?<![\\w.])\\d+(?!\\w)").matcher(line);
        while (number.find()) {
            int n = Integer.parseInt(number.group());
            all.add(line.substring(0, number.start()) + (n + 1) + line.substring(number.end()));
            all.add(line.substring(0, number.start()) + (n - 1) + line.substring(number.end()));
        }
        Matcher condition = Pattern.compile("if \\((.*)\\) \\{$").matcher(line);
        if (condition.find()) {
            all.add(line.substring(0, condition.start(1)) + "7 > 8" + line.substring(condition.end(1)));
            all.add(line.substring(0, condition.start(1)) + "7 < 8" + line.substring(condition.end(1)));
        }
        // An operand of && or || left out.
        Matcher operand = Pattern.compile("[^()&|]+ (&&|\\|\\|) ").matcher(line);
        while (operand.find()) {
            all.add(line.substring(0, operand.start()) + (line.startsWith("(", operand.start()) ? "(" : "")
                    + line.substring(operand.end()));
        }
        Matcher last = Pattern.compile(" (&&|\\|\\|) [^&|]*?(?=\\) \\{$|;$)").matcher(line);
        while (last.find()) {
            all.add(line.substring(0, last.start()) + line.substring(last.end()));
        }
        Matcher either = Pattern.compile("\\? (.*) : (.*);$").matcher(line);
        if (either.find()) {
            all.add(line.substring(0, either.start()) + "? " + either.group(2) + " : " + either.group(1) + ";");
        }
        if (line.startsWith("    public int ") || line.matches(" {12}return (BAD|UNKNOWN|FULL|STATE);")) {
            for (String insert : INSERTS) {
                all.add(line.endsWith("{") ? line + " " + insert : "            " + insert + " " + line.trim());
            }
        }
        String code = line.trim();
        if (code.endsWith(";") && !code.startsWith("return") && !code.startsWith("private") && !code.startsWith("int ")) {
            all.add(line.substring(0, line.length() - code.length()));
        }
        return all;
    }

    /** Which tests fail; null, if it doesn't compile. */
    private Set<String> failures(Mutant mutant, Path place) throws Exception {
        Path file = place.resolve("CrowdLaws.java");
        Files.writeString(file, mutant.source);
        Path errors = place.resolve("errors");
        int result;
        try (var out = Files.newOutputStream(errors)) {
            result = ToolProvider.getSystemJavaCompiler().run(null, out, out, "-nowarn", "-d", place.toString(), file.toString());
        }
        if (result != 0) {
            return null;
        }
        Path told = place.resolve("told");
        Process run = new ProcessBuilder("java", "-XX:+UseSerialGC", "-XX:TieredStopAtLevel=1", "-cp", place + ":" + tests,
                "SentencesTest", document).redirectErrorStream(true).redirectOutput(told.toFile()).start();
        Set<String> failed = new TreeSet<>();
        if (!run.waitFor(30, TimeUnit.SECONDS)) {
            run.destroyForcibly().waitFor();
            failed.add("(no end)");
        }
        for (String line : Files.readAllLines(told)) {
            if (line.startsWith("FAILED ")) {
                failed.add(line.substring("FAILED ".length()));
            }
        }
        if (failed.isEmpty() && run.exitValue() != 0) {
            failed.add("(another end)");
        }
        return failed;
    }
}
