import java.io.IOException;
import java.lang.reflect.Constructor;
import java.lang.reflect.Field;
import java.lang.reflect.Method;
import java.lang.reflect.Modifier;
import java.nio.file.Files;
import java.nio.file.Path;
import java.util.ArrayList;
import java.util.Arrays;
import java.util.List;
import java.util.Set;
import java.util.TreeSet;
import java.util.regex.Matcher;
import java.util.regex.Pattern;

/** Whether the class has the document's face, and its source keeps to what LANGUAGE.md leaves, as far as words tell. */
public final class LanguageTest {
    private static final String[] FACE = {
        "int states(int)", "int start(int)", "int alone(int,int)", "int pair(int,int,int,int)", "int all(int,int,int)",
        "int need(int,int)", "int rule(int,int)", "int bad(int)", "int put(int,int)", "int at(int)", "int can(int)",
        "int step(int)", "int isBad()", "int doomed()", "int search()", "int bases()", "int base(int,int)", "int least()",
        "int reach(int)", "int steps(int)", "int run(int,int,int)", "int doomedOf(int)", "int total(int)"};
    private static final String[] WORDS = {
        "throw", "throws", "try", "catch", "finally", "synchronized", "assert", "import", "package", "transient", "volatile",
        "native", "strictfp", "Exception", "Error", "System", "Thread", "Random", "Object", "hashCode", "equals", "toString"};

    private static int wrong = 0;

    public static void main(String[] args) throws IOException {
        face();
        source(Files.readString(Path.of(args[0])));
        if (wrong != 0) {
            System.exit(1);
        }
        System.out.println("language: all as due");
    }

    private static void fault(String text) {
        wrong++;
        System.out.println("language: " + text);
    }

    private static void face() {
        Set<String> publicOnes = new TreeSet<>();
        Set<String> names = new TreeSet<>();
        for (Method method : CrowdLaws.class.getDeclaredMethods()) {
            String told = method.getReturnType().getSimpleName() + " " + method.getName()
                    + Arrays.toString(method.getParameterTypes()).replace('[', '(').replace(']', ')').replace(" ", "");
            if (Modifier.isPublic(method.getModifiers())) {
                publicOnes.add(told);
                names.add(method.getName());
            } else if (!Modifier.isPrivate(method.getModifiers())) {
                fault("neither public nor private: " + told);
            }
        }
        if (!publicOnes.equals(new TreeSet<>(List.of(FACE)))) {
            fault("the face is " + publicOnes);
        }
        for (Method method : CrowdLaws.class.getDeclaredMethods()) {
            if (Modifier.isPrivate(method.getModifiers()) && names.contains(method.getName())) {
                fault("a private method bears a public name: " + method.getName());
            }
        }
        int publicFields = 0;
        for (Field field : CrowdLaws.class.getDeclaredFields()) {
            int modifiers = field.getModifiers();
            publicFields += Modifier.isPublic(modifiers) ? 1 : 0;
            if (!Modifier.isPublic(modifiers) && !Modifier.isPrivate(modifiers)) {
                fault("neither public nor private: " + field.getName());
            }
        }
        Constructor<?>[] constructors = CrowdLaws.class.getConstructors();
        if (publicFields != 6 || constructors.length != 1 || constructors[0].getParameterCount() != 0
                || !Modifier.isFinal(CrowdLaws.class.getModifiers())) {
            fault("constants, constructor or final");
        }
        inside(CrowdLaws.class);
    }

    private static void inside(Class<?> outer) {
        Class<?>[] all = outer.getDeclaredClasses();
        if (all.length > 11) {
            fault("too many classes: " + all.length);
        }
        for (Class<?> one : all) {
            if (!Modifier.isStatic(one.getModifiers()) || Modifier.isPublic(one.getModifiers())) {
                fault("not static, or public: " + one.getName());
            }
            int fields = 0;
            for (Field field : one.getDeclaredFields()) {
                fields += Modifier.isStatic(field.getModifiers()) ? 0 : 1;
                if (Modifier.isStatic(field.getModifiers()) && !Modifier.isFinal(field.getModifiers())) {
                    fault("static and not final: " + field.getName());
                }
            }
            if (fields > 20) {
                fault("too many fields: " + one.getName());
            }
        }
    }

    private static void source(String source) {
        for (int i = 0; i < source.length(); i++) {
            if (source.charAt(i) > 126) {
                fault("a sign that isn't plain: " + (int) source.charAt(i));
                break;
            }
        }
        String code = source.replaceAll("(?s)/\\*.*?\\*/", " ").replaceAll("//[^\n]*", " ");
        for (String word : WORDS) {
            if (Pattern.compile("\\b" + word + "\\b").matcher(code).find()) {
                fault("the word " + word);
            }
        }
        for (String sign : new String[] {"->", "::", "Exact(", "@", "\""}) {
            if (code.contains(sign)) {
                fault("the sign " + sign);
            }
        }
        Matcher library = Pattern.compile("\\b([A-Z][a-z]\\w*)\\.(\\w+)").matcher(code);
        while (library.find()) {
            if (!List.of("Math.max", "Math.min").contains(library.group())) {
                fault("from the library: " + library.group());
            }
        }
        methods(code);
    }

    private static void methods(String code) {
        Matcher head = Pattern.compile("\\w[ \\w<>\\[\\]]*\\(([^()]*)\\) \\{\n").matcher(code);
        List<String> lines = new ArrayList<>();
        while (head.find()) {
            String told = head.group().trim();
            if (told.matches("(?s)(if|for|while|switch|else)\\b.*")) {
                continue;
            }
            int depth = 1;
            int at = head.end();
            while (depth > 0 && at < code.length()) {
                depth += code.charAt(at) == '{' ? 1 : code.charAt(at) == '}' ? -1 : 0;
                at++;
            }
            long length = code.substring(head.start(), at).lines().count();
            if (length > 60 || head.group(1).split(",").length > 7) {
                fault("long, or of many parameters: " + told);
            }
            lines.add(told);
        }
        if (lines.size() < FACE.length) {
            fault("methods were not found");
        }
    }
}
