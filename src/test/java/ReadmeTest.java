import java.io.File;
import java.io.IOException;
import java.lang.reflect.InvocationTargetException;
import java.lang.reflect.Method;
import java.lang.reflect.Modifier;
import java.net.URL;
import java.net.URLClassLoader;
import java.nio.file.Files;
import java.nio.file.Path;
import java.util.ArrayList;
import java.util.List;
import java.util.regex.Matcher;
import java.util.regex.Pattern;
import javax.tools.ToolProvider;

/** README.md: its examples answer what is written behind them, and it says the public face in the document's words. */
public final class ReadmeTest {
    private static final Pattern ANSWERED = Pattern.compile("(\\S.*);\\s+// (.*)");

    public static void main(String[] args) throws Exception {
        String readme = Files.readString(Path.of("README.md"));
        examples(readme);
        face(readme);
        promises(readme);
        tests(readme);
        Kit.close();
    }

    /** The answer must be what the remark behind the call begins with. */
    public static void look(String call, Object answer, String remark) {
        String got = String.valueOf(answer);
        boolean begins = remark.startsWith(got);
        boolean ends = remark.length() == got.length() || begins && !Character.isLetterOrDigit(remark.charAt(got.length()));
        Kit.due(call + " answered " + got + ", README.md says: " + remark, begins && ends, true);
    }

    private static void examples(String readme) throws Exception {
        StringBuilder methods = new StringBuilder();
        List<String> bodies = new ArrayList<>();
        Matcher block = Pattern.compile("```java\n(.*?)```", Pattern.DOTALL).matcher(readme);
        while (block.find()) {
            if (block.group(1).startsWith("static ")) {
                methods.append(block.group(1));
            } else {
                bodies.add(body(block.group(1)));
            }
        }
        Kit.due("examples", bodies.size() >= 3, true);
        StringBuilder all = new StringBuilder("public final class ReadmeUse {\n").append(methods);
        for (int k = 0; k < bodies.size(); k++) {
            all.append("public static void use").append(k).append("() {\n").append(bodies.get(k)).append("}\n");
        }
        run(all.append("}\n").toString(), bodies.size());
    }

    private static String body(String block) {
        StringBuilder body = new StringBuilder();
        for (String line : block.split("\n")) {
            Matcher call = ANSWERED.matcher(line);
            if (call.matches()) {
                body.append("ReadmeTest.look(").append(quoted(call.group(1))).append(", ").append(call.group(1))
                    .append(", ").append(quoted(call.group(2))).append(");\n");
            } else {
                body.append(line).append('\n');
            }
        }
        return body.toString();
    }

    private static String quoted(String text) {
        return "\"" + text.replace("\\", "\\\\").replace("\"", "\\\"") + "\"";
    }

    private static void run(String source, int uses) throws Exception {
        Path out = Files.createTempDirectory("readme");
        Path file = out.resolve("ReadmeUse.java");
        Files.writeString(file, source);
        String path = System.getProperty("java.class.path");
        int failed = ToolProvider.getSystemJavaCompiler().run(null, null, null, "-cp", path, "-d", out.toString(), file.toString());
        Kit.due("README.md's examples compile", failed, 0);
        if (failed == 0) {
            try (URLClassLoader loader = new URLClassLoader(new URL[] {out.toUri().toURL()})) {
                Class<?> made = loader.loadClass("ReadmeUse");
                for (int k = 0; k < uses; k++) {
                    call(made, k);
                }
            }
        }
        for (File f : out.toFile().listFiles()) {
            f.delete();
        }
        Files.delete(out);
    }

    private static void call(Class<?> made, int k) throws ReflectiveOperationException {
        try {
            made.getMethod("use" + k).invoke(null);
        } catch (InvocationTargetException e) {
            Kit.due("example " + k + " throws " + e.getCause(), true, false);
        }
    }

    private static void face(String readme) {
        for (Method m : SixBitBoard.class.getDeclaredMethods()) {
            if (Modifier.isPublic(m.getModifiers())) {
                String begin = "| `" + m.getReturnType().getSimpleName() + " " + m.getName() + "(";
                Kit.due("README.md has " + m.getName(), readme.contains(begin), true);
            }
        }
        Kit.due("README.md has NONE", readme.contains("public static final int NONE = -1;"), true);
    }

    private static void promises(String readme) throws IOException {
        Path document = Path.of("../shared/DOC.md");
        if (!Files.exists(document)) {
            return;
        }
        Matcher promise = Pattern.compile("## Promise (\\d+): .*\n\n(`.*`): (.*)\n").matcher(Files.readString(document));
        int count = 0;
        while (promise.find()) {
            count++;
            String row = "| " + promise.group(2) + " | " + promise.group(1) + " | " + promise.group(3) + " |";
            Kit.due("README.md says promise " + promise.group(1) + " in the document's words", readme.contains(row), true);
        }
        Kit.due("promises", count, 27);
    }

    private static void tests(String readme) throws IOException {
        for (File f : new File("src/test/java").listFiles()) {
            if (f.getName().endsWith(".java")) {
                String name = f.getName().replace(".java", "");
                Kit.due("README.md tells of " + name, Pattern.compile("\\b" + name + "\\b").matcher(readme).find(), true);
            }
        }
        Kit.due("README.md says how tests are run", readme.contains("`bash .ci/run`"), true);
    }
}
