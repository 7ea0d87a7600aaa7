import java.io.IOException;
import java.nio.charset.StandardCharsets;
import java.nio.file.Files;
import java.nio.file.Path;
import java.util.List;
import java.util.regex.Matcher;
import java.util.regex.Pattern;

/** The Java of README.md, all blocks in one row: each call must answer what stands behind it. */
public final class ReadmeTest {
    private static final Pattern TOLD = Pattern.compile("^(bus\\.(\\w+)\\(.*\\)); +// (-?\\d+|[A-Z]+)\\b.*$");
    private static final List<String> CALLS = List.of("streets", "ofRoad", "way", "along", "child", "ofChild", "ready", "tie",
            "late", "mean", "start", "gate", "holds", "grown", "split", "ways", "friendly", "loss", "patience", "helper", "days", "week",
            "sheet", "lose", "put", "cell", "copy", "tell", "tag", "as", "trace", "fault", "many");

    private static String program(List<String> readme) {
        StringBuilder java = new StringBuilder("public final class ReadmeCalls {\n"
                + "static int right = 0, wrong = 0;\n"
                + "static void due(String call, long got, long due) {\n"
                + "if (got == due) { right++; } else { wrong++; System.out.println(call + \" answered \" + got); }\n"
                + "}\npublic static void main(String[] none) {\n");
        boolean isJava = false;
        for (String line : readme) {
            if (line.startsWith("```")) {
                isJava = line.equals("```java");
                continue;
            }
            if (isJava) {
                java.append(asTest(line)).append('\n');
            }
        }
        return java + "System.out.println(right + \" calls of README.md answer so, \" + wrong + \" do not\");\n"
                + "if (wrong != 0 || right == 0) { System.exit(1); }\n}\n}\n";
    }

    private static String asTest(String line) {
        Matcher told = TOLD.matcher(line);
        if (!told.matches()) {
            return line;
        }
        String due = Character.isLetter(told.group(3).charAt(0)) ? "WalkingBus." + told.group(3) : told.group(3);
        return "due(\"" + told.group(1) + "\", " + told.group(1) + ", " + due + ");";
    }

    private static boolean tellsAll(List<String> readme) {
        boolean all = true;
        for (String call : CALLS) {
            boolean isTold = readme.stream().anyMatch(line -> line.matches("bus\\." + call + "\\(.*// (-?\\d|[A-Z]).*"));
            if (!isTold) {
                System.out.println("README.md has no call of " + call);
                all = false;
            }
        }
        return all;
    }

    /** By the same command that .ci/run uses. */
    private static boolean compiles(Path source, Path classes) throws IOException, InterruptedException {
        return new ProcessBuilder("javac", "-encoding", "UTF-8", "-cp", classes.toString(), "-d", classes.toString(),
                source.toString()).inheritIO().start().waitFor() == 0;
    }

    public static void main(String[] args) throws IOException, InterruptedException, ReflectiveOperationException {
        List<String> readme = Files.readAllLines(Path.of("README.md"), StandardCharsets.UTF_8);
        Path classes = Path.of(ReadmeTest.class.getProtectionDomain().getCodeSource().getLocation().getPath());
        Path source = classes.resolve("ReadmeCalls.java");
        Files.writeString(source, program(readme), StandardCharsets.UTF_8);
        if (!compiles(source, classes) || !tellsAll(readme)) {
            System.exit(1);
        }
        Class.forName("ReadmeCalls").getMethod("main", String[].class).invoke(null, (Object) new String[0]);
    }
}
