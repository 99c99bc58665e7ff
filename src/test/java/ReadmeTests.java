import java.io.IOException;
import java.net.URL;
import java.net.URLClassLoader;
import java.nio.file.Files;
import java.nio.file.Path;
import java.util.ArrayList;
import java.util.List;
import java.util.Set;
import java.util.TreeSet;
import java.util.regex.Matcher;
import java.util.regex.Pattern;
import javax.tools.JavaCompiler;
import javax.tools.ToolProvider;

/** What README.md shows: its example is compiled and run, and every call of the face is named. */
public final class ReadmeTests extends Desk {
    private static final Pattern CALL = Pattern.compile("(x\\.\\w+\\(.*\\));\\s*// (-?\\d+): .*");

    public static void main(String[] args) throws Exception {
        Path root = Path.of(args.length > 0 ? args[0] : ".");
        String readme = Files.readString(root.resolve("README.md"));
        List<String> lines = exampleLines(readme);
        due("lines of the example, two at least,", lines.size() > 1 ? 1 : 0, 1);
        runExample(program(lines));
        callsNamed(readme, Files.readString(root.resolve("../shared/DOC.md")));
        end("the example of README.md answers as it says, " + (lines.size() - 1) + " times");
    }

    private static List<String> exampleLines(String readme) {
        List<String> lines = new ArrayList<>();
        boolean within = false;
        for (String line : readme.split("\n")) {
            if (line.startsWith("```")) within = line.equals("```java");
            else if (within) lines.add(line);
        }
        return lines;
    }

    /** A class whose run() returns the lines that were not answered as they say. */
    private static String program(List<String> lines) {
        StringBuilder out = new StringBuilder("public final class Example {\n public static String run() {\n  String wrong = \"\";\n");
        for (int i = 0; i < lines.size(); i++) {
            Matcher call = CALL.matcher(lines.get(i));
            if (i == 0) {
                out.append(lines.get(i)).append('\n');
            } else if (call.matches()) {
                out.append("  if (").append(call.group(1)).append(" != ").append(call.group(2)).append(") wrong += \"").append(i).append(" \";\n");
            } else {
                due("line " + i + " of the example, a call with its answer,", 0, 1);
            }
        }
        return out.append("  return wrong;\n }\n}\n").toString();
    }

    private static void runExample(String program) throws Exception {
        Path dir = Files.createTempDirectory("readme");
        Path source = dir.resolve("Example.java"), made = dir.resolve("Example.class");
        try {
            Files.writeString(source, program);
            JavaCompiler javac = ToolProvider.getSystemJavaCompiler();
            int code = javac.run(null, null, null, "-cp", System.getProperty("java.class.path"), "-d", dir.toString(), source.toString());
            due("javac of the example", code, 0);
            if (code == 0) compareLines(dir);
        } finally {
            Files.deleteIfExists(source);
            Files.deleteIfExists(made);
            Files.deleteIfExists(dir);
        }
    }

    private static void compareLines(Path dir) throws IOException, ReflectiveOperationException {
        try (URLClassLoader loader = new URLClassLoader(new URL[] {dir.toUri().toURL()}, ReadmeTests.class.getClassLoader())) {
            String lines = (String) loader.loadClass("Example").getMethod("run").invoke(null);
            for (String line : lines.split(" ")) if (!line.isEmpty()) due("line " + line + " of the example", 0, 1);
        }
    }

    private static void callsNamed(String readme, String doc) {
        Set<String> missing = new TreeSet<>();
        Matcher m = Pattern.compile("public (?:int|long) (\\w+)\\(").matcher(doc);
        while (m.find()) if (!readme.contains("`" + m.group(1) + "`")) missing.add(m.group(1));
        due("calls that README.md does not name " + missing, missing.size(), 0);
    }
}
