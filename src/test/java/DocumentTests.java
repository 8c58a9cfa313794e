import java.io.IOException;
import java.nio.file.Files;
import java.nio.file.Path;
import java.util.List;
import java.util.regex.Matcher;
import java.util.regex.Pattern;
import java.util.stream.Stream;

/** What is written down: both examples of the document, call by call, and what README.md says. */
final class DocumentTests {
    private DocumentTests() {
    }

    static void run(String root) throws IOException {
        examples(Files.readString(Path.of(root, "..", "shared", "DOC.md")));
        String readme = Files.readString(Path.of(root, "README.md"));
        readmeExample(readme);
        readmeTable(readme, Path.of(root, "src", "test", "java"));
        Check.is("README.md names .ci/run, which can be run",
            readme.contains(".ci/run") && Files.isExecutable(Path.of(root, ".ci", "run")), true);
    }

    private static List<String> blocks(String text, String kind) {
        return Pattern.compile("(?s)```" + kind + "\n(.*?)```").matcher(text).results().map(found -> found.group(1))
            .toList();
    }

    private static void examples(String document) {
        List<String> examples = blocks(document, "text");
        Check.is("examples of the document", examples.size(), 2);
        for (int i = 0; i < examples.size(); i++) {
            Script.run("example " + (i + 1) + " in DOC.md", examples.get(i).replaceAll("\\s+", " "));
        }
    }

    /** Each row of the example is "bus.call(arguments); // answer", with more words behind a colon. */
    private static void readmeExample(String readme) {
        List<String> blocks = blocks(readme, "java");
        Check.is("examples of README.md", blocks.size(), 1);
        StringBuilder text = new StringBuilder();
        Matcher row = Pattern.compile("bus\\.(.*\\));\\s*// ('.'|\\d+)(:.*)?").matcher(blocks.get(0));
        int rows = 0;
        while (row.find()) {
            rows++;
            text.append(row.group(1).replace("device", "1").replace("pipe", "0")).append(" = ").append(row.group(2))
                .append("; ");
        }
        Check.is("calls in the example of README.md", rows, blocks.get(0).split("bus\\.", -1).length - 1);
        Script.run("the example of README.md", text.toString());
    }

    private static void readmeTable(String readme, Path tests) throws IOException {
        try (Stream<Path> files = Files.list(tests)) {
            for (Path file : files.toList()) {
                String name = file.getFileName().toString().replace(".java", "");
                if (name.endsWith("Tests") && !name.equals("AllTests")) {
                    Check.is("README.md tells what " + name + " looks at", readme.contains("`" + name + "`"), true);
                }
            }
        }
    }
}
