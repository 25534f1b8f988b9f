import java.io.IOException;
import java.lang.reflect.InvocationTargetException;
import java.lang.reflect.Method;
import java.nio.file.Path;
import java.util.Arrays;
import java.util.Comparator;
import java.util.List;

/**
 * Runs the tests of the document's single sentences. Each one quotes its sentence; that the quotes stand in the document
 * under the heading that is told, and that no words of Terms and promises are left without a test, is looked at too.
 */
public final class SentencesTest {
    private static final List<Class<?>> TESTS = List.of(
            TermsTest.class, StatesAndRulesTest.class, AtHandTest.class, AnyNumberTest.class, OneNumberTest.class);

    private static int passed = 0;
    private static int failed = 0;

    public static void main(String[] args) throws IOException {
        Document document = new Document(Path.of(args[0]));
        for (Class<?> tests : TESTS) {
            Method[] methods = tests.getDeclaredMethods();
            Arrays.sort(methods, Comparator.comparing(Method::getName));
            for (Method method : methods) {
                if (method.getParameterCount() == 0 && method.getReturnType() == void.class) {
                    count(method.getName(), isPassed(method, document));
                }
            }
        }
        // No object after its 512th call is promised anything: there is nothing to ask.
        document.quote("What it is", "what later calls answer is free.");
        List<String> unquoted = document.unquoted();
        for (String rest : unquoted) {
            System.out.println("no test quotes: " + rest);
        }
        count("every sentence has a test", unquoted.isEmpty());
        System.out.println("sentences:");
        System.out.println(passed + " passed, " + failed + " failed");
        if (failed != 0) {
            System.exit(1);
        }
    }

    private static void count(String test, boolean isPassed) {
        if (isPassed) {
            passed++;
        } else {
            failed++;
            System.out.println("FAILED " + test);
        }
    }

    private static boolean isPassed(Method method, Document document) {
        Sentence sentence = method.getAnnotation(Sentence.class);
        if (sentence == null) {
            System.out.println(method.getName() + " quotes no sentence");
            return false;
        }
        if (!document.quote(sentence.at(), sentence.says())) {
            System.out.println(method.getName() + " quotes what the document doesn't say: " + sentence);
            return false;
        }
        if (!method.getName().startsWith(prefix(sentence.at()))) {
            System.out.println(method.getName() + " isn't named by its heading: " + sentence);
            return false;
        }
        Asking.begin();
        boolean isThrown = !runs(method);
        for (String fault : Asking.faults()) {
            System.out.println(sentence.at() + " | " + sentence.says() + " | " + fault);
        }
        return !isThrown && Asking.isAllAsDue();
    }

    /** So 'Promise 4: alone' is the heading of tests whose names begin with promise04_alone_. */
    private static String prefix(String heading) {
        if (!heading.startsWith("Promise ")) {
            return heading.equals("Terms") ? "terms_" : "whatItIs_";
        }
        String[] parts = heading.substring("Promise ".length()).split(": ");
        String name = parts[1].equals("A new object") ? "newObject" : parts[1];
        return String.format("promise%02d_%s_", Integer.parseInt(parts[0]), name);
    }

    private static boolean runs(Method method) {
        try {
            method.invoke(null);
            return true;
        } catch (InvocationTargetException | IllegalAccessException thrown) {
            System.out.println(method.getName() + " threw " + thrown.getCause());
            return false;
        }
    }
}
