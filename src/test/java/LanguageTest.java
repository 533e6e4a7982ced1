import com.sun.management.ThreadMXBean;
import java.io.IOException;
import java.lang.management.ManagementFactory;
import java.lang.reflect.Executable;
import java.lang.reflect.Field;
import java.lang.reflect.Modifier;
import java.nio.file.Files;
import java.nio.file.Path;
import java.util.ArrayList;
import java.util.List;
import java.util.regex.Pattern;

/** The rules of LANGUAGE.md that can be seen from outside; FaceTest looks at rules 1 and 5. */
public final class LanguageTest {
    private static final Due DUE = new Due();
    private static final String[] RULED_OUT = {"\\bpackage\\b", "\\bsynchronized\\b", "\\bassert\\b", "\\bfinally\\b",
        "\\bstatic\\s*\\{", "Exact\\s*\\(", "\\bgetMessage\\b", "::", "\\bSystem\\s*\\.\\s*(?!arraycopy\\b)",
        "\\bThread\\b", "\\bRandom\\b", "\\bFloat\\b", "\\bDouble\\b",
        "catch\\s*\\([^)]*\\b(Throwable|Exception|Error|ArrayIndexOutOfBoundsException|NullPointerException"
            + "|ClassCastException|NegativeArraySizeException|ArrayStoreException)\\b"};
    private static final int PARAMETERS = 7;
    private static final int CLASSES = 14;
    private static final int FIELDS = 24;
    private static final int CALLS = 512;
    /** Far below 7.3 million fields and elements of four bytes. */
    private static final long ROOM_BYTES = 20_000_000;

    public static void main(String[] args) throws IOException {
        wordsThatAreRuledOut();
        sizes();
        roomOfARun();
        DUE.end();
    }

    /** Rules 2 to 6 and 13: what the part of Java that is left does not have. */
    private static void wordsThatAreRuledOut() throws IOException {
        String source = Files.readString(Path.of("src/main/java/RomSearchBus.java"))
                .replaceAll("(?s)/\\*.*?\\*/|//[^\n]*", " ").replaceAll("\"(\\\\.|[^\"\\\\])*\"|'(\\\\.|[^'\\\\])'", "0");
        for (String word : RULED_OUT) {
            DUE.holds("the class has no " + word, !Pattern.compile(word).matcher(source).find());
        }
    }

    /** Rule 11: parameters, classes and fields. */
    private static void sizes() {
        List<Class<?>> classes = new ArrayList<>(List.of(RomSearchBus.class));
        for (int index = 0; index < classes.size(); index++) {
            Class<?> each = classes.get(index);
            classes.addAll(List.of(each.getDeclaredClasses()));
            List<Executable> bodies = new ArrayList<>(List.of(each.getDeclaredMethods()));
            bodies.addAll(List.of(each.getDeclaredConstructors()));
            for (Executable body : bodies) {
                DUE.holds(body + " has few parameters", body.getParameterCount() <= PARAMETERS || each.isEnum());
            }
            int fields = 0;
            for (Field field : each.getDeclaredFields()) {
                fields += Modifier.isStatic(field.getModifiers()) ? 0 : 1;
            }
            DUE.holds(each + " has few fields", fields <= FIELDS);
        }
        DUE.holds("the file has few classes", classes.size() <= CLASSES);
    }

    /** Rule 12: an object's 512 calls, the dearest text among them, make little. */
    private static void roomOfARun() {
        ThreadMXBean threads = (ThreadMXBean) ManagementFactory.getThreadMXBean();
        long before = threads.getCurrentThreadAllocatedBytes();
        RomSearchBus bus = Due.busOf(0, 0, 1, 31, 2, 62, 0, 93, 1, 124, 2, 155, 0, 186, 1, 217);
        Due.write(bus, "n;".repeat(60));
        for (int call = 8 + 121; call < CALLS; call += 3) {
            bus.execute();
            bus.countAhead();
            bus.undo();
        }
        long made = threads.getCurrentThreadAllocatedBytes() - before;
        DUE.holds("512 calls make little: " + made + " bytes", made < ROOM_BYTES);
    }
}
