import java.util.ArrayDeque;
import java.util.ArrayList;
import java.util.Deque;
import java.util.List;
import java.util.regex.Matcher;
import java.util.regex.Pattern;

/**
 * The document read a second time, by other means than the class: lists and
 * fresh copies for the state, regular expressions for the command text. The
 * two are compared by ModelTest, call by call.
 */
final class Model {
    private static final String NUMBER = " *([0-9]{1,3})";
    private static final String NEXT_NUMBER = " +([0-9]{1,3})";
    private static final String NEXT_SIGNED = "(?: +([0-9]{1,3})| *(-[0-9]{1,3}))";
    private static final String COMMAND = "(?: *(?:"
            + "d" + NUMBER + NEXT_NUMBER
            + "|x" + NUMBER
            + "|v" + NUMBER + NEXT_SIGNED
            + "|l" + NUMBER + NEXT_NUMBER + NEXT_SIGNED
            + "|m" + NUMBER
            + "|[rnk]) *;)";
    private static final Pattern TEXT = Pattern.compile(COMMAND + "+ *");
    private static final Pattern ONE = Pattern.compile(COMMAND);

    private static final class Device {
        int family;
        int serial;
        int reading;
        int rule;
        int limit;

        Device copy() {
            Device twin = new Device();
            twin.family = family;
            twin.serial = serial;
            twin.reading = reading;
            twin.rule = rule;
            twin.limit = limit;
            return twin;
        }

        int rom() {
            int low = serial * 16 + family;
            return checksum(low) * 4096 + low;
        }

        boolean alarmed() {
            return rule == 1 && reading > limit
                    || rule == 2 && reading < limit
                    || rule == 3 && reading * reading > limit * limit;
        }
    }

    private static final class Snapshot {
        List<Device> devices = new ArrayList<>();
        boolean[] rom = new boolean[16];
        int last = -1;
        int lastFamily = -1;
        boolean flag = false;
        int mode = 0;
        int noise = -1;
        int slots = 0;
        List<Integer> history = new ArrayList<>();

        Snapshot copy() {
            Snapshot twin = new Snapshot();
            for (Device device : devices) {
                twin.devices.add(device.copy());
            }
            twin.rom = rom.clone();
            twin.last = last;
            twin.lastFamily = lastFamily;
            twin.flag = flag;
            twin.mode = mode;
            twin.noise = noise;
            twin.slots = slots;
            twin.history.addAll(history);
            return twin;
        }
    }

    private Snapshot now = new Snapshot();
    private final Deque<Snapshot> saved = new ArrayDeque<>();
    private final long[] counters = new long[10];
    private final StringBuilder text = new StringBuilder();
    private int stop = 0;

    /** The CRC by its linearity: each bit of the number adds a fixed word of its own. */
    static int checksum(int low) {
        int sum = 0;
        for (int bit = 0; bit < 12; bit++) {
            if ((low & (1 << bit)) != 0) {
                int word = 12;
                for (int later = bit + 1; later < 12; later++) {
                    word = (word % 2 == 1) ? (word / 2) ^ 12 : word / 2;
                }
                sum ^= word;
            }
        }
        return sum;
    }

    private boolean isDevice(int device) {
        return 0 <= device && device < now.devices.size();
    }

    private static boolean isMeasure(int value) {
        return -999 <= value && value <= 999;
    }

    private int add(int family, int serial) {
        if (family < 0 || family > 15 || serial < 0 || serial > 255) {
            return -2;
        }
        for (Device device : now.devices) {
            if (device.family == family && device.serial == serial) {
                return -3;
            }
        }
        if (now.devices.size() == 8) {
            return -4;
        }
        Device device = new Device();
        device.family = family;
        device.serial = serial;
        now.devices.add(device);
        return now.devices.size() - 1;
    }

    private int remove(int device) {
        if (!isDevice(device)) {
            return -2;
        }
        now.devices.remove(device);
        return now.devices.size();
    }

    private int reading(int device, int value) {
        if (!isDevice(device) || !isMeasure(value)) {
            return -2;
        }
        now.devices.get(device).reading = value;
        return now.devices.get(device).alarmed() ? 1 : 0;
    }

    private int alarm(int device, int rule, int limit) {
        if (!isDevice(device) || rule < 0 || rule > 3 || !isMeasure(limit)) {
            return -2;
        }
        now.devices.get(device).rule = rule;
        now.devices.get(device).limit = limit;
        return now.devices.get(device).alarmed() ? 1 : 0;
    }

    private int mode(int mode) {
        if (mode != 0 && mode != 1) {
            return -2;
        }
        int old = now.mode;
        reset();
        now.mode = mode;
        return old;
    }

    private int reset() {
        int old = romNumber();
        now.rom = new boolean[16];
        now.last = -1;
        now.lastFamily = -1;
        now.flag = false;
        return old;
    }

    private int romNumber() {
        int number = 0;
        for (int bit = 15; bit >= 0; bit--) {
            number = 2 * number + (now.rom[bit] ? 1 : 0);
        }
        return number;
    }

    private boolean read(boolean level, int index) {
        now.slots++;
        boolean hit = now.noise == index;
        if (hit) {
            now.noise = -1;
        }
        return level != hit;
    }

    private int pass() {
        if (now.flag) {
            reset();
            return -8;
        }
        if (now.devices.isEmpty()) {
            reset();
            return -5;
        }
        List<Integer> active = new ArrayList<>();
        for (Device device : now.devices) {
            if (now.mode == 0 || device.alarmed()) {
                active.add(device.rom());
            }
        }
        int lastZero = -1;
        for (int position = 0; position < 16; position++) {
            int weight = 1 << position;
            boolean allOne = active.stream().allMatch(rom -> (rom & weight) != 0);
            boolean allZero = active.stream().allMatch(rom -> (rom & weight) == 0);
            boolean id = read(allOne, 2 * position);
            boolean complement = read(allZero, 2 * position + 1);
            if (id && complement) {
                reset();
                return -6;
            }
            boolean direction = id;
            if (!id && !complement) {
                direction = position < now.last ? now.rom[position] : position == now.last;
                if (!direction) {
                    lastZero = position;
                    now.lastFamily = position < 4 ? position : now.lastFamily;
                }
            }
            now.slots++;
            now.rom[position] = direction;
            boolean kept = direction;
            active.removeIf(rom -> ((rom & weight) != 0) != kept);
        }
        now.last = lastZero;
        now.flag = lastZero == -1;
        int number = romNumber();
        if (checksum(number % 4096) != number / 4096) {
            reset();
            return -7;
        }
        if (!now.history.contains(number)) {
            now.history.add(number);
        }
        if (now.history.size() > 6) {
            now.history.remove(0);
        }
        return number;
    }

    private int skip() {
        now.last = now.lastFamily;
        now.lastFamily = -1;
        now.flag = now.flag || now.last == -1;
        return now.last;
    }

    private int target(int family) {
        if (family < 0 || family > 15) {
            return -2;
        }
        reset();
        for (int bit = 0; bit < 4; bit++) {
            now.rom[bit] = (family & (1 << bit)) != 0;
        }
        now.last = 16;
        return romNumber();
    }

    private int noise(int read) {
        if (read < -1 || read > 31) {
            return -2;
        }
        int old = now.noise;
        now.noise = read;
        return old;
    }

    private int count(int code) {
        counters[-code]++;
        return code;
    }

    private void save(Snapshot old) {
        saved.addLast(old);
        if (saved.size() > 5) {
            saved.removeFirst();
        }
    }

    /** The first index whose byte makes a beginning that no text could continue. */
    static int syntaxError(String text) {
        for (int end = 1; end <= text.length(); end++) {
            Matcher matcher = TEXT.matcher(text.substring(0, end));
            if (!matcher.matches() && !matcher.hitEnd()) {
                return end - 1;
            }
        }
        return TEXT.matcher(text).matches() ? -1 : text.length();
    }

    private static List<Integer> numbersOf(String command) {
        List<Integer> numbers = new ArrayList<>();
        Matcher matcher = Pattern.compile("-?[0-9]+").matcher(command);
        while (matcher.find()) {
            numbers.add(Integer.valueOf(matcher.group()));
        }
        return numbers;
    }

    private int command(String command) {
        List<Integer> n = numbersOf(command);
        switch (command.trim().charAt(0)) {
            case 'd': return add(n.get(0), n.get(1));
            case 'x': return remove(n.get(0));
            case 'v': return reading(n.get(0), n.get(1));
            case 'l': return alarm(n.get(0), n.get(1), n.get(2));
            case 'm': return mode(n.get(0));
            case 'r': return reset();
            case 'n': return pass();
            case 'k': return skip();
            default: throw new IllegalStateException(command);
        }
    }

    private int executeText() {
        int error = syntaxError(text.toString());
        if (error >= 0) {
            return -10 - error;
        }
        Snapshot old = now.copy();
        Matcher matcher = ONE.matcher(text);
        int index = 0;
        while (matcher.find()) {
            int result = command(matcher.group());
            if (result <= -2 && result >= -4) {
                now = old;
                stop = result;
                return -1000 - index;
            }
            index++;
        }
        save(old);
        return index;
    }

    private int ahead() {
        Snapshot old = now;
        now = old.copy();
        int passes = 0;
        while (passes < 20 && pass() >= 0) {
            passes++;
        }
        now = old;
        return passes;
    }

    private int alarmedSet() {
        int set = 0;
        for (int device = 0; device < now.devices.size(); device++) {
            set += now.devices.get(device).alarmed() ? 1 << device : 0;
        }
        return set;
    }

    private int share(int family) {
        if (family < 0 || family > 15) {
            return count(-2);
        }
        if (now.devices.isEmpty()) {
            return Float.floatToIntBits(0.0f);
        }
        long members = now.devices.stream().filter(device -> device.family == family).count();
        return Float.floatToIntBits((float) members / (float) now.devices.size());
    }

    private int appendByte(int value) {
        if (value < 0 || value > 127) {
            return count(-2);
        }
        if (text.length() == 120) {
            return count(-4);
        }
        return text.append((char) value).length();
    }

    private int clear() {
        int old = text.length();
        text.setLength(0);
        return old;
    }

    private int undoLast() {
        if (saved.isEmpty()) {
            return count(-9);
        }
        now = saved.removeLast();
        return saved.size();
    }

    private long hash() {
        List<Long> values = new ArrayList<>();
        for (int code = 2; code <= 9; code++) {
            values.add(counters[code]);
        }
        values.add((long) now.devices.size());
        for (Device device : now.devices) {
            values.add((long) device.rom());
            values.add((long) device.reading);
            values.add((long) device.rule);
            values.add((long) device.limit);
        }
        values.add((long) romNumber());
        values.add((long) now.last);
        values.add((long) now.lastFamily);
        values.add(now.flag ? 1L : 0L);
        values.add((long) now.mode);
        values.add((long) now.noise);
        values.add((long) now.slots);
        values.add((long) now.history.size());
        for (int code : now.history) {
            values.add((long) code);
        }
        values.add((long) text.length());
        values.add((long) saved.size());
        values.add((long) stop);
        long h = 2633;
        for (long v : values) {
            h = 31 * h + v;
        }
        return h;
    }

    private long undoable(String name, int a, int b, int c) {
        Snapshot old = now.copy();
        int result;
        switch (name) {
            case "addDevice": result = add(a, b); break;
            case "removeDevice": result = remove(a); break;
            case "setReading": result = reading(a, b); break;
            case "setAlarm": result = alarm(a, b, c); break;
            case "setMode": result = mode(a); break;
            case "resetSearch": result = reset(); break;
            case "next": result = pass(); break;
            case "skipFamily": result = skip(); break;
            case "targetFamily": result = target(a); break;
            case "setNoise": result = noise(a); break;
            default: throw new IllegalStateException(name);
        }
        if (result >= -1 || name.equals("next")) {
            save(old);
        }
        return result >= -1 ? result : count(result);
    }

    long call(String name, int a, int b, int c) {
        switch (name) {
            case "romCode": return isDevice(a) ? now.devices.get(a).rom() : count(-2);
            case "alarmedDevices": return alarmedSet();
            case "crc": return a >= 0 && a <= 4095 ? checksum(a) : count(-2);
            case "countAhead": return ahead();
            case "currentRom": return romNumber();
            case "lastDiscrepancy": return now.last;
            case "lastFamilyDiscrepancy": return now.lastFamily;
            case "isLastDevice": return now.flag ? 1 : 0;
            case "slotsUsed": return now.slots;
            case "found": return a >= 0 && a < now.history.size() ? now.history.get(a) : count(-2);
            case "familyShareBits": return share(a);
            case "append": return appendByte(a);
            case "clearText": return clear();
            case "execute": return executeText();
            case "stopCause": return stop;
            case "undo": return undoLast();
            case "errorCount": return a >= -9 && a <= -2 ? counters[-a] : count(-2);
            case "deviceCount": return now.devices.size();
            case "digest": return hash();
            default: return undoable(name, a, b, c);
        }
    }
}
