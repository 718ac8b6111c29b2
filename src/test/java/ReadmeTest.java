import java.io.File;
import java.io.IOException;
import java.lang.reflect.Method;
import java.lang.reflect.Modifier;
import java.net.URL;
import java.net.URLClassLoader;
import java.nio.file.Files;
import java.nio.file.Path;
import java.util.ArrayList;
import java.util.List;
import java.util.regex.Matcher;
import java.util.regex.Pattern;
import javax.tools.ToolProvider;

/** README.md: its pieces of Java compile, and each call in them answers what stands behind it. */
public final class ReadmeTest {
    private static final Pattern PIECE = Pattern.compile("(?m)^```java\\n((?s:.*?))^```$");
    private static final Pattern SHOWN = Pattern.compile("(gaol\\.(\\w+)\\(.*\\)); +// (-?\\d+)\\b.*");

    private final String page;
    private final StringBuilder body = new StringBuilder();
    private final List<String> calls = new ArrayList<>();
    private final List<Long> answers = new ArrayList<>();

    private ReadmeTest(String page) {
        this.page = page;
    }

    public static void main(String[] args) throws IOException, ReflectiveOperationException {
        ReadmeTest test = new ReadmeTest(Files.readString(Path.of("README.md")));
        test.readPieces();
        test.holdsAnswers();
        test.showsEachCall();
        test.namesEachTest();
        Due.end("ReadmeTest");
    }

    /** All pieces are one run; each call that stands at a line's beginning shows its answer. */
    private void readPieces() {
        Matcher piece = PIECE.matcher(page);
        while (piece.find()) {
            for (String line : piece.group(1).split("\n")) {
                readLine(line);
            }
        }
    }

    private void readLine(String line) {
        Matcher shown = SHOWN.matcher(line);
        if (shown.matches()) {
            calls.add(shown.group(1));
            answers.add(Long.valueOf(shown.group(3)));
            body.append("answers.add((long) ").append(shown.group(1)).append(");\n");
        } else {
            Due.holds("an answer is shown behind '" + line + "'", !line.startsWith("gaol."));
            body.append(line).append('\n');
        }
    }

    private void holdsAnswers() throws IOException, ReflectiveOperationException {
        List<?> got = run();
        Due.due("how many answers", got.size(), answers.size());
        for (int i = 0; i < got.size(); i++) {
            Due.due(calls.get(i) + ", answer " + (i + 1) + " of README.md,", (Long) got.get(i), answers.get(i));
        }
    }

    /** What the pieces answer, compiled as they stand; nothing, if they don't compile. */
    private List<?> run() throws IOException, ReflectiveOperationException {
        Path folder = Files.createTempDirectory("readme");
        Path source = folder.resolve("Pieces.java");
        try {
            Files.writeString(source, "public class Pieces {\npublic static java.util.List<Long> run() {\n"
                + "java.util.List<Long> answers = new java.util.ArrayList<>();\n" + body + "return answers;\n}\n}\n");
            int status = ToolProvider.getSystemJavaCompiler().run(null, null, null, "-cp",
                System.getProperty("java.class.path"), "-d", folder.toString(), source.toString());
            Due.due("javac of the pieces of README.md", status, 0);
            return status == 0 ? answersFrom(folder) : List.of();
        } finally {
            for (File file : folder.toFile().listFiles()) {
                file.delete();
            }
            Files.delete(folder);
        }
    }

    private static List<?> answersFrom(Path folder) throws IOException, ReflectiveOperationException {
        try (URLClassLoader loader = new URLClassLoader(new URL[] {folder.toUri().toURL()})) {
            return (List<?>) loader.loadClass("Pieces").getMethod("run").invoke(null);
        }
    }

    private void showsEachCall() {
        for (Method method : CellNeighbours.class.getDeclaredMethods()) {
            if (Modifier.isPublic(method.getModifiers())) {
                String call = "gaol." + method.getName() + "(";
                Due.holds(call + "..) is shown", calls.stream().anyMatch(shown -> shown.startsWith(call)));
            }
        }
    }

    private void namesEachTest() {
        for (String file : new File("src/test/java").list()) {
            if (file.endsWith("Test.java")) {
                String row = "| " + file.replace(".java", "") + " |";
                Due.holds("the row '" + row + "' is there", page.contains("\n" + row));
            }
        }
    }
}
