import java.io.IOException;
import java.net.URL;
import java.net.URLClassLoader;
import java.nio.file.Files;
import java.nio.file.Path;
import java.util.ArrayList;
import java.util.List;
import java.util.function.Supplier;
import java.util.regex.Matcher;
import java.util.regex.Pattern;
import javax.tools.ToolProvider;

/** README.md's Java: each call whose comment begins with a number answers that. */
public final class ReadmeTest {
    private static final Pattern ANSWERED = Pattern.compile("(x\\..*);\\s+// (-?\\d+).*");
    private static final String NAME = "ReadmeExamples";

    private final StringBuilder source = new StringBuilder();
    private final List<String> calls = new ArrayList<>();
    private final List<Long> wants = new ArrayList<>();

    public static void main(String[] args) throws Exception {
        ReadmeTest test = new ReadmeTest();
        test.gather(Files.readAllLines(Path.of(System.getProperty("project", "."), "README.md")));
        test.compare(test.answers());
        Due.done("ReadmeTest");
    }

    /** Makes one method of the examples, each in a block of its own. */
    private void gather(List<String> lines) {
        source.append("public final class ").append(NAME).append(" implements java.util.function.Supplier<long[]> {\n");
        source.append("public long[] get() { java.util.ArrayList<Long> told = new java.util.ArrayList<>();\n");
        boolean inside = false;
        for (String line : lines) {
            if (line.equals("```java") || inside && line.equals("```")) {
                inside = !inside;
                source.append(inside ? "{\n" : "}\n");
            } else if (inside) {
                gatherLine(line);
            }
        }
        source.append("return told.stream().mapToLong(Long::longValue).toArray(); } }\n");
    }

    private void gatherLine(String line) {
        Matcher answered = ANSWERED.matcher(line);
        if (!answered.matches()) {
            source.append(line).append('\n');
            return;
        }
        calls.add(answered.group(1));
        wants.add(Long.parseLong(answered.group(2)));
        source.append("told.add((long) ").append(answered.group(1)).append(");\n");
    }

    private long[] answers() throws IOException, ReflectiveOperationException {
        Path dir = Files.createTempDirectory("readme");
        Path file = Files.writeString(dir.resolve(NAME + ".java"), source);
        // What is deleted on exit goes in the opposite order, so the directory is empty then.
        dir.toFile().deleteOnExit();
        file.toFile().deleteOnExit();
        dir.resolve(NAME + ".class").toFile().deleteOnExit();
        int compiled = ToolProvider.getSystemJavaCompiler().run(null, null, null,
            "-cp", System.getProperty("java.class.path"), "-d", dir.toString(), file.toString());
        Due.due("README.md: its examples compile", compiled, 0);
        if (compiled != 0) return new long[0];
        try (URLClassLoader loader = new URLClassLoader(new URL[] {dir.toUri().toURL()})) {
            Object made = loader.loadClass(NAME).getConstructor().newInstance();
            return made instanceof Supplier<?> s && s.get() instanceof long[] told ? told : new long[0];
        }
    }

    private void compare(long[] told) {
        Due.due("README.md: has examples", calls.size() > 20 ? 1 : 0, 1);
        Due.due("README.md: how many answer", told.length, calls.size());
        for (int i = 0; i < told.length; i++) {
            Due.due("README.md: " + calls.get(i), told[i], wants.get(i));
        }
    }
}
