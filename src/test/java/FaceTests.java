import java.io.IOException;
import java.lang.reflect.Member;
import java.lang.reflect.Method;
import java.lang.reflect.Modifier;
import java.nio.file.Files;
import java.nio.file.Path;
import java.util.ArrayList;
import java.util.Arrays;
import java.util.List;
import java.util.Set;
import java.util.TreeSet;
import java.util.regex.Matcher;
import java.util.regex.Pattern;

/** The public face, as the document's code block shows it, and rules of ../shared/LANGUAGE.md that a text shows. */
final class FaceTests {
    private FaceTests() {
    }

    static void run(String root) throws IOException {
        face(Files.readString(Path.of(root, "..", "shared", "DOC.md")));
        language(Files.readString(Path.of(root, "src", "main", "java", "Hubcascade.java")));
    }

    private static void face(String document) {
        int start = document.indexOf("public final class Hubcascade {");
        String block = document.substring(start, document.indexOf("```", start));
        Set<String> due = new TreeSet<>();
        Matcher matcher = Pattern.compile("public (\\w+) (\\w+)\\(([^)]*)\\)(?: throws ([\\w, ]+))?;").matcher(block);
        while (matcher.find()) {
            List<String> types = new ArrayList<>();
            for (String parameter : matcher.group(3).split(",")) {
                String word = parameter.strip();
                types.add(word.isEmpty() ? "" : word.substring(0, word.indexOf(' ')));
            }
            String thrown = matcher.group(4) == null ? "" : matcher.group(4).replace(" ", "");
            due.add(matcher.group(1) + " " + matcher.group(2) + "(" + String.join(",", types) + ")" + thrown);
        }
        Check.is("the document has 53 methods", due.size(), 53);
        Set<String> found = new TreeSet<>();
        Set<String> publicNames = new TreeSet<>();
        Set<String> privateNames = new TreeSet<>();
        for (Method method : Hubcascade.class.getDeclaredMethods()) {
            (isVisible(method) ? publicNames : privateNames).add(method.getName());
            if (isVisible(method)) {
                List<String> types = Arrays.stream(method.getParameterTypes()).map(Class::getName).toList();
                List<String> thrown = Arrays.stream(method.getExceptionTypes()).map(Class::getSimpleName).toList();
                found.add(method.getReturnType() + " " + method.getName() + "(" + String.join(",", types) + ")"
                    + String.join(",", thrown));
            }
        }
        Check.is("the public methods", found.toString(), due.toString());
        privateNames.retainAll(publicNames);
        Check.is("private methods with public names", privateNames.toString(), "[]");
        Check.is("visible fields", Arrays.stream(Hubcascade.class.getDeclaredFields())
            .filter(FaceTests::isVisible).count(), 0L);
        Check.is("constructors", Hubcascade.class.getDeclaredConstructors().length, 1);
        for (Class<?> part : Hubcascade.class.getDeclaredClasses()) {
            for (Method method : part.getDeclaredMethods()) {
                Check.is("the name of " + method, publicNames.contains(method.getName()), false);
            }
            long fields = Arrays.stream(part.getDeclaredFields()).filter(f -> !Modifier.isStatic(f.getModifiers()))
                .count();
            Check.is("at most 20 fields in " + part, fields <= 20, true);
        }
        Check.is("at most 12 classes", Hubcascade.class.getDeclaredClasses().length < 12, true);
    }

    static List<Method> publicMethods() {
        return Arrays.stream(Hubcascade.class.getDeclaredMethods()).filter(FaceTests::isVisible)
            .sorted((one, other) -> one.getName().compareTo(other.getName())).toList();
    }

    private static boolean isVisible(Member member) {
        return !Modifier.isPrivate(member.getModifiers());
    }

    private static void language(String source) {
        String[] forbidden = {"->", "::", "finally", "assert ", "synchronized", "static {", "instanceof", "try {",
            "catch (", "List", "Random", "System.", "String.format", "/* "};
        for (String word : forbidden) {
            Check.is("the source has " + word, source.contains(word), false);
        }
        Check.is("the imports", Pattern.compile("(?m)^import .*$").matcher(source).results()
            .map(result -> result.group()).toList().toString(), "[import java.util.NoSuchElementException;]");
        int lines = 0;
        String made = ".*(throw new \\w+\\(\"|private final .* = new "
            + "|(devices|pipes|endpoints|transfers)\\[i\\] = new ).*";
        for (String line : source.split("\n")) {
            Check.is("at most 120 signs in: " + line, line.length() <= 120, true);
            Check.is("objects are made ahead: " + line, !line.contains("new ") || line.matches(made), true);
            lines = line.matches(" {4,8}[a-zA-Z].*\\) \\{") ? 0 : lines + 1;
            Check.is("a method of at most 60 lines before: " + line, lines <= 60 || !line.matches(" {4,8}}"), true);
        }
        for (int i = 0; i < source.length(); i++) {
            if (source.charAt(i) > 126) {
                Check.is("a sign outside of ASCII at " + i, source.charAt(i), ' ');
            }
        }
    }
}
