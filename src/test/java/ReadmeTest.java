import java.io.IOException;
import java.lang.reflect.Method;
import java.lang.reflect.Modifier;
import java.net.URL;
import java.net.URLClassLoader;
import java.nio.file.Files;
import java.nio.file.Path;
import java.util.ArrayList;
import java.util.Comparator;
import java.util.List;
import java.util.regex.Matcher;
import java.util.regex.Pattern;
import java.util.stream.Stream;
import javax.tools.JavaCompiler;
import javax.tools.ToolProvider;

/** Runs README.md's example as it stands there; each call must answer what README.md says behind it. */
public final class ReadmeTest {
    private static final Pattern BLOCK = Pattern.compile("(?s)```java\n(.*?)```");
    private static final Pattern ANSWERED =
        Pattern.compile("(?:int (\\w+) = )?(\\S.*\\));\\s*// (NONE|true|false|-?\\d+)(?:: .*)?");
    private static final String NEW_OBJECT = "RouteWall x = new RouteWall();";

    private final List<String> calls = new ArrayList<>();
    private final List<Long> wants = new ArrayList<>();
    private final StringBuilder members = new StringBuilder();
    private final StringBuilder body = new StringBuilder();

    public static void main(String[] args) throws IOException, ReflectiveOperationException {
        ReadmeTest test = new ReadmeTest();
        test.read(Files.readString(Path.of("README.md")));
        List<Long> got = test.run();
        Check.due("calls that were run", got.size(), test.calls.size());
        for (int i = 0; i < Math.min(got.size(), test.calls.size()); i++) {
            Check.due("README.md: " + test.calls.get(i), got.get(i), test.wants.get(i));
        }
        test.everyCallIsShown();
        Check.finish();
    }

    private void read(String readme) {
        Matcher block = BLOCK.matcher(readme);
        while (block.find()) {
            if (block.group(1).startsWith("static ")) {
                members.append(block.group(1));
            } else {
                block.group(1).lines().forEach(this::readLine);
            }
        }
    }

    private void readLine(String line) {
        if (line.isBlank() || line.equals(NEW_OBJECT)) {
            body.append(line).append('\n');
            return;
        }
        Matcher answered = ANSWERED.matcher(line);
        Check.due("README.md tells an answer: " + line, answered.matches(), true);
        if (!answered.matches()) {
            return;
        }
        String name = answered.group(1);
        String call = answered.group(2);
        if (name != null) {
            body.append("int ").append(name).append(" = ").append(call).append(";\n");
        }
        body.append("tell(answers, ").append(name != null ? name : call).append(");\n");
        calls.add(call);
        wants.add(number(answered.group(3)));
    }

    private static long number(String answer) {
        switch (answer) {
            case "NONE":
                return RouteWall.NONE;
            case "true":
                return 1;
            case "false":
                return 0;
            default:
                return Long.parseLong(answer);
        }
    }

    private String source() {
        return "import java.util.ArrayList;\nimport java.util.List;\npublic final class ReadmeExample {\n"
            + "private static void tell(List<Long> all, long got) { all.add(got); }\n"
            + "private static void tell(List<Long> all, boolean got) { all.add(got ? 1L : 0L); }\n"
            + members + "public static List<Long> answers() {\nList<Long> answers = new ArrayList<>();\n"
            + body + "return answers;\n}\n}\n";
    }

    @SuppressWarnings("unchecked")
    private List<Long> run() throws IOException, ReflectiveOperationException {
        Path folder = Files.createTempDirectory("readme");
        try {
            Path file = Files.writeString(folder.resolve("ReadmeExample.java"), source());
            JavaCompiler compiler = ToolProvider.getSystemJavaCompiler();
            int code = compiler.run(null, null, null, "-cp", System.getProperty("java.class.path"),
                "-d", folder.toString(), file.toString());
            Check.due("README.md's example compiles", code, 0);
            if (code != 0) {
                return List.of();
            }
            try (URLClassLoader loader = new URLClassLoader(new URL[] {folder.toUri().toURL()})) {
                return (List<Long>) loader.loadClass("ReadmeExample").getMethod("answers").invoke(null);
            }
        } finally {
            remove(folder);
        }
    }

    private static void remove(Path folder) throws IOException {
        try (Stream<Path> all = Files.walk(folder)) {
            for (Path path : all.sorted(Comparator.reverseOrder()).toList()) {
                Files.delete(path);
            }
        }
    }

    /** An example that shows how the class is used leaves no call of the face out. */
    private void everyCallIsShown() {
        String all = members + body.toString();
        for (Method method : RouteWall.class.getDeclaredMethods()) {
            if (Modifier.isPublic(method.getModifiers())) {
                Check.due("README.md shows " + method.getName(), all.contains("x." + method.getName() + "("), true);
            }
        }
    }
}
