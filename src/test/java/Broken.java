import java.io.File;
import java.io.IOException;
import java.lang.reflect.Field;
import java.lang.reflect.InvocationTargetException;
import java.lang.reflect.Method;
import java.nio.file.Files;
import java.nio.file.Path;
import java.util.ArrayList;
import java.util.Comparator;
import java.util.List;
import java.util.concurrent.ExecutionException;
import java.util.concurrent.ExecutorService;
import java.util.concurrent.Executors;
import java.util.concurrent.Future;
import java.util.concurrent.TimeUnit;
import javax.tools.ToolProvider;

/**
 * Makes each change of src/test/sentences.txt in a copy of the class and runs
 * the tests that the piece names: they must catch it. It is no part of .ci/run,
 * since its changes are bound to the words of the source; .ci/broken starts it.
 */
public final class Broken {
    private static final String SOURCE = "src/main/java/RomSearchBus.java";
    private static final String TRY = "try";
    private static final int CAUGHT = 1;
    private static final int NOT_CAUGHT = 0;
    private static final int NOT_COMPILED = -1;
    private static final int LONGEST_SECONDS = 60;

    private final Path folder;
    private final String whole;
    private final String source;

    private Broken(Path folder) throws IOException {
        this.folder = folder;
        whole = folder.resolve("whole").toString();
        source = Sentences.collapsed(Files.readString(Path.of(SOURCE)).replaceAll("(?m) // .*$", ""));
    }

    public static void main(String[] args) throws Exception {
        if (args.length > 0 && args[0].equals(TRY)) {
            System.exit(tryTests(args));
        }
        Path folder = Files.createTempDirectory("broken");
        int failed = new Broken(folder).tryAll();
        try (var files = Files.walk(folder)) {
            files.sorted(Comparator.reverseOrder()).forEach(file -> file.toFile().delete());
        }
        System.exit(failed == 0 ? 0 : 1);
    }

    private int tryAll() throws IOException, InterruptedException, ExecutionException {
        compileTests();
        ExecutorService pool = Executors.newFixedThreadPool(Runtime.getRuntime().availableProcessors());
        List<Future<String>> results = new ArrayList<>();
        for (Sentences.Piece piece : Sentences.read()) {
            if (!piece.tests().isEmpty()) {
                int number = results.size();
                results.add(pool.submit(() -> unbroken(piece, number)));
            }
            for (Sentences.Change change : piece.changes()) {
                int number = results.size();
                results.add(pool.submit(() -> broken(piece, change, number)));
            }
        }
        int failed = 0;
        for (Future<String> result : results) {
            if (!result.get().isEmpty()) {
                failed++;
                System.out.println(result.get());
            }
        }
        pool.shutdown();
        System.out.println(results.size() + " tries, " + failed + " are not as due");
        return failed;
    }

    private void compileTests() throws IOException {
        List<String> arguments = new ArrayList<>(List.of("-d", whole, SOURCE));
        try (var files = Files.newDirectoryStream(Path.of("src/test/java"), "*.java")) {
            files.forEach(file -> arguments.add(file.toString()));
        }
        if (ToolProvider.getSystemJavaCompiler().run(null, null, null, arguments.toArray(new String[0])) != 0) {
            throw new IOException("the tests do not compile");
        }
    }

    private String unbroken(Sentences.Piece piece, int number) throws IOException, InterruptedException {
        int exit = exitOf(source, piece.tests(), number);
        return exit == NOT_CAUGHT ? "" : "fails without a change: " + piece.tests() + ", exit " + exit;
    }

    private String broken(Sentences.Piece piece, Sentences.Change change, int number)
            throws IOException, InterruptedException {
        String told = "\n    " + change.text() + "\n    " + change.replacement() + "\n  of: " + piece.text();
        String text = Sentences.collapsed(change.text());
        int place = source.indexOf(text);
        if (place < 0 || source.indexOf(text, place + 1) >= 0) {
            return "does not stand once in the class:" + told;
        }
        String changed = source.substring(0, place) + change.replacement() + source.substring(place + text.length());
        int exit = exitOf(changed, piece.tests(), number);
        return exit == CAUGHT ? "" : (exit == NOT_CAUGHT ? "not caught:" : "exit " + exit + ":") + told;
    }

    private int exitOf(String text, List<String> tests, int number) throws IOException, InterruptedException {
        Path own = Files.createDirectory(folder.resolve("try" + number));
        Path file = own.resolve("RomSearchBus.java");
        Files.writeString(file, text);
        Path log = own.resolve("log");
        try (var errors = Files.newOutputStream(own.resolve("errors"))) {
            if (ToolProvider.getSystemJavaCompiler().run(null, errors, errors, "-d", own.toString(), file.toString()) != 0) {
                return NOT_COMPILED;
            }
        }
        List<String> command = new ArrayList<>(List.of("java", "-XX:TieredStopAtLevel=1", "-cp",
                own + File.pathSeparator + whole, "Broken", TRY));
        command.addAll(tests);
        Process process = new ProcessBuilder(command).redirectErrorStream(true).redirectOutput(log.toFile()).start();
        if (!process.waitFor(LONGEST_SECONDS, TimeUnit.SECONDS)) {
            process.destroyForcibly();
            return CAUGHT;
        }
        return process.exitValue();
    }

    /** A test that ends with a wrong answer, or does not end as it should, has caught the change. */
    private static int tryTests(String[] args) throws ReflectiveOperationException {
        for (int index = 1; index < args.length; index++) {
            String[] names = args[index].split("\\.");
            Class<?> test = Class.forName(names[0]);
            try {
                if (names.length == 1) {
                    test.getMethod("main", String[].class).invoke(null, (Object) new String[0]);
                } else {
                    Method method = test.getDeclaredMethod(names[1]);
                    method.setAccessible(true);
                    method.invoke(null);
                }
            } catch (InvocationTargetException thrown) {
                return CAUGHT;
            }
            Field due = test.getDeclaredField("DUE");
            due.setAccessible(true);
            if (((Due) due.get(null)).wrong() != 0) {
                return CAUGHT;
            }
        }
        return NOT_CAUGHT;
    }
}
