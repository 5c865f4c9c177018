import java.io.IOException;
import java.nio.charset.StandardCharsets;
import java.nio.file.Files;
import java.nio.file.Path;
import java.util.ArrayList;
import java.util.List;
import java.util.regex.Matcher;
import java.util.regex.Pattern;

/** Tries the calls of README.md's examples: each must answer what is written behind it, up to a colon. */
public final class ReadmeTest {
    private static final Pattern ANSWERED = Pattern.compile("(int (\\w+) = )?(theatre\\..*);\\s+// (throws )?([^:]+)(:.*)?");
    private static int answers = 0;

    private static List<String> examples(String text) {
        List<String> lines = new ArrayList<>();
        boolean isJava = false;
        for (String line : text.split("\n")) {
            if (line.startsWith("```")) isJava = line.equals("```java");
            else if (isJava) lines.add(line);
        }
        return lines;
    }

    private static String quoted(String text) {
        return "\"" + text.replace("\\", "\\\\").replace("\"", "\\\"") + "\"";
    }

    /** What is written behind a call becomes a check of it; other lines stay as they are. */
    private static String checked(String line) {
        Matcher m = ANSWERED.matcher(line);
        if (!m.matches()) return line;
        answers++;
        String call = quoted(m.group(3)) + ", " + quoted(m.group(5).trim()) + ", ";
        if (m.group(4) != null) {
            return "{ Object got; try { got = " + m.group(3) + "; } catch (RuntimeException e) { got = e.getClass().getSimpleName(); } due(" + call + "got); }";
        }
        return m.group(1) == null ? "due(" + call + m.group(3) + ");" : m.group(1) + m.group(3) + "; due(" + call + m.group(2) + ");";
    }

    private static String program(List<String> lines) {
        StringBuilder all = new StringBuilder("public final class Example {\n static int wrong = 0;\n");
        all.append(" static void due(String call, String want, Object got) {\n");
        all.append("  if (!want.equals(String.valueOf(got))) { wrong++; System.out.println(call + \" answered \" + got + \", README.md says \" + want); }\n }\n");
        all.append(" public static void main(String[] args) {\n");
        for (String line : lines) all.append(checked(line)).append('\n');
        return all.append("  if (wrong != 0) System.exit(1);\n }\n}\n").toString();
    }

    private static int run(String... words) throws IOException, InterruptedException {
        return new ProcessBuilder(words).inheritIO().start().waitFor();
    }

    public static void main(String[] args) throws IOException, InterruptedException {
        String text = Files.readString(Path.of("README.md"), StandardCharsets.UTF_8);
        Path folder = Files.createTempDirectory("readme");
        Files.writeString(folder.resolve("Example.java"), program(examples(text)), StandardCharsets.UTF_8);
        String classes = folder + System.getProperty("path.separator") + System.getProperty("java.class.path");
        int wrong = run("javac", "-cp", classes, "-d", folder.toString(), folder.resolve("Example.java").toString());
        if (wrong == 0) wrong = run("java", "-cp", classes, "Example");
        for (String each : new String[] {"Example.java", "Example.class"}) Files.deleteIfExists(folder.resolve(each));
        Files.deleteIfExists(folder);
        if (answers < 40) wrong++;
        for (String each : Path.of("src", "test", "java").toFile().list()) {
            String name = "`" + each.replace(".java", "") + "`";
            if (!text.contains(name)) { wrong++; System.out.println("README.md does not tell of " + name); }
        }
        System.out.println(answers + " answers of README.md, " + (wrong == 0 ? "all as written" : "not all as written"));
        if (wrong != 0) System.exit(1);
    }
}
