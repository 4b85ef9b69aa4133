import java.io.IOException;
import java.nio.file.Files;
import java.nio.file.Path;
import java.util.ArrayList;
import java.util.List;
import java.util.regex.Matcher;
import java.util.regex.Pattern;

/** README.md: the calls that it shows answer as it says, and the commands work from the project's root. */
public final class ReadmeTest {
    private static final Pattern SHOWN = Pattern.compile("(kernel\\.\\w+\\(.*?\\)); +// (throws )?([^:]+).*");

    public static void main(String[] args) throws IOException, InterruptedException {
        List<String> readme = Files.readAllLines(Path.of("README.md"));
        calls(blocks(readme, "java"));
        commands(blocks(readme, "sh"));
        testsAreNamed(String.join("\n", readme));
        Check.done();
    }

    /** The lines between ```kind and ```, block for block. */
    private static List<List<String>> blocks(List<String> lines, String kind) {
        List<List<String>> all = new ArrayList<>();
        List<String> open = null;
        for (String line : lines) {
            if (open == null && line.equals("```" + kind)) {
                open = new ArrayList<>();
                all.add(open);
            } else if (line.equals("```")) {
                open = null;
            } else if (open != null) {
                open.add(line);
            }
        }
        return all;
    }

    private static void calls(List<List<String>> blocks) throws IOException, InterruptedException {
        Check.due("there is Java in README.md", blocks.isEmpty(), false);
        for (List<String> block : blocks) {
            StringBuilder body = new StringBuilder();
            int shown = 0;
            for (String line : block) {
                Matcher m = SHOWN.matcher(line);
                boolean isShown = m.matches();
                shown += isShown ? 1 : 0;
                body.append(isShown ? checked(m) : line).append('\n');
            }
            Check.due("calls are shown with their answers", shown > 0, true);
            Path made = Files.createTempDirectory("readme");
            Path source = made.resolve("Shown.java");
            Files.writeString(source, "public final class Shown {\npublic static void main(String[] args) {\n" + body
                + "Check.done();\n}\n}\n");
            works("javac -d " + made + " -sourcepath src/main/java:src/test/java " + source);
            works("java -cp " + made + " Shown");
            works("rm -r " + made);
        }
    }

    private static String checked(Matcher shown) {
        String call = shown.group(1);
        String want = shown.group(3).trim();
        if (shown.group(2) != null) {
            return "Check.thrown(\"" + call + "\", " + want + ".class, () -> " + call + ");";
        }
        return "Check.due(\"" + call + "\", " + call + ", " + want + ");";
    }

    /** But for .ci/run, which runs this very test. */
    private static void commands(List<List<String>> blocks) throws IOException, InterruptedException {
        Check.due(".ci/run can be run", Files.isExecutable(Path.of(".ci/run")), true);
        int all = 0;
        for (List<String> block : blocks) {
            for (String command : block) {
                all++;
                if (!command.equals(".ci/run")) {
                    works(command);
                }
            }
        }
        Check.due("commands are shown", all >= 3, true);
    }

    private static void works(String command) throws IOException, InterruptedException {
        int code = new ProcessBuilder("sh", "-c", command).inheritIO().start().waitFor();
        Check.due(command, code, 0);
    }

    private static void testsAreNamed(String readme) throws IOException {
        try (var files = Files.list(Path.of("src/test/java"))) {
            files.map(f -> f.getFileName().toString().replaceAll("(Test)?\\.java$", ""))
                .forEach(name -> Check.due("README.md names " + name, readme.contains("`" + name + "`"), true));
        }
    }
}
