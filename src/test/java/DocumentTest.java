import java.io.IOException;
import java.lang.reflect.Field;
import java.lang.reflect.Method;
import java.lang.reflect.Modifier;
import java.nio.file.Files;
import java.nio.file.Path;
import java.util.Arrays;
import java.util.regex.Matcher;
import java.util.regex.Pattern;

/** What the document itself gives to be compared: its face, its list of constants and its five examples. */
public final class DocumentTest {
    private static final Due DUE = new Due();
    private static final int CONSTANTS = 8;
    private static final int METHODS = 29;
    private static final int EXAMPLES = 5;
    private static final int EXAMPLE_CALLS = 55;
    private static final Pattern CONSTANT = Pattern.compile("public static final int (\\w+) = (-?\\d+);");
    private static final Pattern LISTED = Pattern.compile("- `(\\w+) = (-?\\d+)`:");
    private static final Pattern METHOD = Pattern.compile("public (int|long) (\\w+)\\(([^)]*)\\);");
    private static final Pattern EXAMPLE = Pattern.compile("(?m)^\\d\\. [^:]*:");
    private static final Pattern CALL = Pattern.compile("(\\w+)\\(([-\\d, ]*)\\)\\s*=\\s*(-?\\d+)");

    public static void main(String[] args) throws IOException, ReflectiveOperationException {
        String document = Files.readString(Path.of("../shared/DOC.md"));
        String face = between(document, "```java", "```");
        DUE.holds("the class is public and final, as the face has it",
                Modifier.toString(RomSearchBus.class.getModifiers()).equals("public final"));
        constants(CONSTANT, face);
        constants(LISTED, between(document, "The constants:", "The constructor and the methods"));
        methods(face);
        examples(between(document, "\nExamples:", "The constants:"));
        DUE.end();
    }

    private static String between(String text, String start, String end) {
        int from = text.indexOf(start) + start.length();
        return text.substring(from, text.indexOf(end, from));
    }

    private static void constants(Pattern pattern, String text) throws ReflectiveOperationException {
        Matcher matcher = pattern.matcher(text);
        int told = 0;
        while (matcher.find()) {
            told++;
            Field field = RomSearchBus.class.getField(matcher.group(1));
            DUE.is(matcher.group(1), field.getInt(null), Integer.parseInt(matcher.group(2)));
        }
        DUE.is("constants told", told, CONSTANTS);
    }

    private static void methods(String face) throws ReflectiveOperationException {
        Matcher matcher = METHOD.matcher(face);
        int told = 0;
        while (matcher.find()) {
            told++;
            String list = matcher.group(3);
            Class<?>[] types = new Class<?>[list.isEmpty() ? 0 : list.split(",").length];
            Arrays.fill(types, int.class);
            Method method = RomSearchBus.class.getMethod(matcher.group(2), types);
            DUE.holds(method + " answers as the face has it",
                    method.getReturnType().toString().equals(matcher.group(1)));
        }
        DUE.is("methods told", told, METHODS);
    }

    /** "Each of them begins with a new object; the results are given behind the calls." */
    private static void examples(String text) {
        String[] examples = EXAMPLE.split(text);
        DUE.is("examples told", examples.length - 1, EXAMPLES);
        int told = 0;
        for (int number = 1; number < examples.length; number++) {
            RomSearchBus bus = new RomSearchBus();
            Matcher matcher = CALL.matcher(examples[number]);
            while (matcher.find()) {
                told++;
                int[] arguments = numbers(matcher.group(2));
                String call = number + ": " + Calls.told(matcher.group(1), arguments);
                DUE.is(call, Calls.answer(bus, matcher.group(1), arguments), Integer.parseInt(matcher.group(3)));
            }
        }
        DUE.is("calls told", told, EXAMPLE_CALLS);
    }

    private static int[] numbers(String list) {
        if (list.isEmpty()) {
            return new int[0];
        }
        String[] parts = list.split(", *");
        int[] numbers = new int[parts.length];
        for (int index = 0; index < parts.length; index++) {
            numbers[index] = Integer.parseInt(parts[index]);
        }
        return numbers;
    }
}
