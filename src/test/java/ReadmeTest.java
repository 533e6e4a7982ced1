import java.io.IOException;
import java.lang.reflect.Method;
import java.lang.reflect.Modifier;
import java.net.URL;
import java.net.URLClassLoader;
import java.nio.file.Files;
import java.nio.file.Path;
import java.util.ArrayList;
import java.util.List;
import java.util.regex.Matcher;
import java.util.regex.Pattern;
import javax.tools.JavaCompiler;
import javax.tools.ToolProvider;

/** The Java lines of README.md, compiled and run as they stand there: each call answers the number behind it. */
public final class ReadmeTest {
    private static final Due DUE = new Due();
    private static final int LEAST_CALLS = 50;
    private static final Pattern BLOCK = Pattern.compile("```java\n(.*?)```", Pattern.DOTALL);
    private static final Pattern CALL = Pattern.compile("(?m)^ *(bus\\..*?\\)); +// (-?\\d+)(?![\\d.]).*$");

    public static void main(String[] args) throws IOException, ReflectiveOperationException {
        Matcher blocks = BLOCK.matcher(Files.readString(Path.of("README.md")));
        List<String> calls = new ArrayList<>();
        List<Long> due = new ArrayList<>();
        StringBuilder body = new StringBuilder();
        while (blocks.find()) {
            Matcher lines = CALL.matcher(blocks.group(1));
            while (lines.find()) {
                calls.add(lines.group(1));
                due.add(Long.valueOf(lines.group(2)));
            }
            body.append("{\n").append(lines.replaceAll("answers.add((long) $1);")).append("}\n");
        }
        List<Long> answers = answersOf(body.toString());
        DUE.is("answers", answers.size(), due.size());
        DUE.holds("README.md tells enough calls", due.size() >= LEAST_CALLS);
        for (int index = 0; index < answers.size(); index++) {
            DUE.is("README.md: " + calls.get(index), answers.get(index), due.get(index));
        }
        everyMethodIsTold(calls);
        DUE.end();
    }

    private static List<Long> answersOf(String body) throws IOException, ReflectiveOperationException {
        Path folder = Files.createTempDirectory("readme");
        Path source = folder.resolve("Lines.java");
        Files.writeString(source, "public final class Lines {\n"
                + "public static void run(java.util.List<Long> answers) {\n" + body + "}\n}\n");
        JavaCompiler compiler = ToolProvider.getSystemJavaCompiler();
        int result = compiler.run(null, null, null, "-cp", System.getProperty("java.class.path"),
                "-d", folder.toString(), source.toString());
        DUE.is("the lines of README.md compile", result, 0);
        List<Long> answers = new ArrayList<>();
        if (result == 0) {
            try (URLClassLoader loader = new URLClassLoader(new URL[] {folder.toUri().toURL()})) {
                loader.loadClass("Lines").getMethod("run", List.class).invoke(null, answers);
            }
        }
        for (String name : new String[] {"Lines.java", "Lines.class"}) {
            Files.deleteIfExists(folder.resolve(name));
        }
        Files.delete(folder);
        return answers;
    }

    private static void everyMethodIsTold(List<String> calls) {
        for (Method method : RomSearchBus.class.getDeclaredMethods()) {
            if (Modifier.isPublic(method.getModifiers())) {
                String start = "bus." + method.getName() + "(";
                DUE.holds("README.md tells an answer of " + method.getName(),
                        calls.stream().anyMatch(call -> call.startsWith(start)));
            }
        }
    }
}
