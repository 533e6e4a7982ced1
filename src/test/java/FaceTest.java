import java.lang.reflect.Constructor;
import java.lang.reflect.Field;
import java.lang.reflect.Method;
import java.lang.reflect.Modifier;
import java.util.Set;
import java.util.TreeSet;

/** The public face is the document's and no more, and static state is as LANGUAGE.md has it. */
public final class FaceTest {
    private static final Due DUE = new Due();
    private static final Set<String> FACE = Set.of(
            "int addDevice(int,int)", "int removeDevice(int)", "int setReading(int,int)",
            "int setAlarm(int,int,int)", "int romCode(int)", "int alarmedDevices()", "int crc(int)",
            "int setMode(int)", "int resetSearch()", "int next()", "int skipFamily()",
            "int targetFamily(int)", "int setNoise(int)", "int countAhead()", "int currentRom()",
            "int lastDiscrepancy()", "int lastFamilyDiscrepancy()", "int isLastDevice()",
            "int slotsUsed()", "int found(int)", "int familyShareBits(int)", "int append(int)",
            "int clearText()", "int execute()", "int stopCause()", "int undo()",
            "int errorCount(int)", "int deviceCount()", "long digest()");
    private static final Set<String> CONSTANTS = Set.of("OUT_OF_RANGE = -2", "DUPLICATE = -3",
            "FULL = -4", "NO_PRESENCE = -5", "NO_DEVICE = -6", "CRC_ERROR = -7", "NO_MORE = -8",
            "NOTHING_SAVED = -9");
    private static final Set<Class<?>> STATIC_TYPES = Set.of(int.class, long.class, boolean.class,
            char.class, String.class, int[].class, long[].class, char[].class, byte[].class);

    public static void main(String[] args) throws IllegalAccessException {
        Class<?> face = RomSearchBus.class;
        DUE.holds("the class is public and final",
                Modifier.isPublic(face.getModifiers()) && Modifier.isFinal(face.getModifiers()));
        constructor(face);
        methods(face);
        constants(face);
        staticFields(face);
        for (Class<?> inside : face.getDeclaredClasses()) {
            DUE.holds(inside + " is static and not public", Modifier.isStatic(inside.getModifiers())
                    && !Modifier.isPublic(inside.getModifiers()) && !Modifier.isProtected(inside.getModifiers()));
            staticFields(inside);
            namesOfItsOwn(inside);
        }
        DUE.end();
    }

    private static void constructor(Class<?> face) {
        Constructor<?>[] all = face.getDeclaredConstructors();
        DUE.is("constructors", all.length, 1);
        DUE.holds("the constructor is public, without parameters",
                Modifier.isPublic(all[0].getModifiers()) && all[0].getParameterCount() == 0);
    }

    private static void methods(Class<?> face) {
        Set<String> open = new TreeSet<>();
        for (Method method : face.getDeclaredMethods()) {
            if (!Modifier.isPrivate(method.getModifiers())) {
                open.add(signature(method));
                DUE.holds(method + " is public and not static", Modifier.isPublic(method.getModifiers())
                        && !Modifier.isStatic(method.getModifiers()));
            }
        }
        DUE.holds("the methods are those of the face: " + open, open.equals(FACE));
        for (Method method : face.getDeclaredMethods()) {
            DUE.holds(method + " has a name of its own",
                    Modifier.isPublic(method.getModifiers()) || !isFaceName(method.getName()));
        }
    }

    private static void namesOfItsOwn(Class<?> inside) {
        for (Method method : inside.getDeclaredMethods()) {
            DUE.holds(method + " has a name of its own",
                    !Modifier.isPrivate(method.getModifiers()) || !isFaceName(method.getName()));
        }
    }

    private static boolean isFaceName(String name) {
        return FACE.stream().anyMatch(signature -> signature.contains(" " + name + "("));
    }

    private static String signature(Method method) {
        StringBuilder types = new StringBuilder();
        for (Class<?> type : method.getParameterTypes()) {
            types.append(types.length() == 0 ? "" : ",").append(type);
        }
        return method.getReturnType() + " " + method.getName() + "(" + types + ")";
    }

    private static void constants(Class<?> face) throws IllegalAccessException {
        Set<String> open = new TreeSet<>();
        for (Field field : face.getDeclaredFields()) {
            if (!Modifier.isPrivate(field.getModifiers())) {
                DUE.holds(field + " is a public constant", Modifier.isPublic(field.getModifiers())
                        && Modifier.isStatic(field.getModifiers()) && field.getType() == int.class);
                open.add(field.getName() + " = " + field.getInt(null));
            }
        }
        DUE.holds("the constants are those of the face: " + open, open.equals(CONSTANTS));
    }

    private static void staticFields(Class<?> owner) {
        for (Field field : owner.getDeclaredFields()) {
            if (Modifier.isStatic(field.getModifiers())) {
                DUE.holds(field + " is a final constant",
                        Modifier.isFinal(field.getModifiers()) && mayBeStatic(field.getType()));
            }
        }
    }

    /** An enum's constants and its values(), kept once, may stand in static fields, too. */
    private static boolean mayBeStatic(Class<?> type) {
        return STATIC_TYPES.contains(type) || type.isEnum()
                || type.isArray() && type.getComponentType().isEnum();
    }
}
