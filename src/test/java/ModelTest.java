import java.util.Random;

/**
 * Long runs of calls, the same in every run of this test, on the class and on
 * the Model: every answer and the digest after every call must agree.
 */
public final class ModelTest {
    private static final int RUNS = 3000;
    private static final int CALLS = 250;
    private static final int MAX_WRONG = 20;
    private static final Due DUE = new Due();
    private static final int[] ODD = {Integer.MIN_VALUE, Integer.MAX_VALUE, -1000, 1000, -2, -1, 0, 1,
        2, 3, 4, 7, 8, 9, 15, 16, 31, 32, 127, 128, 255, 256, 999, -999, 4095, 4096, 65536};
    private static final String[] UNDOABLE = {"addDevice", "removeDevice", "setReading", "setAlarm",
        "setMode", "resetSearch", "skipFamily", "targetFamily", "setNoise"};
    private static final String[] ASKING = {"romCode", "alarmedDevices", "crc", "countAhead",
        "currentRom", "lastDiscrepancy", "lastFamilyDiscrepancy", "isLastDevice", "slotsUsed",
        "found", "familyShareBits", "append", "clearText", "stopCause", "errorCount", "deviceCount"};
    private static final String LETTERS = "dxvlmrnk";
    private static final String BYTES = "dxvlmrnk0123456789 -;";

    private final Random random;
    private final RomSearchBus bus = new RomSearchBus();
    private final Model model = new Model();
    private final StringBuilder told = new StringBuilder();

    private ModelTest(int seed) {
        random = new Random(seed);
    }

    public static void main(String[] args) {
        for (int run = 0; run < RUNS && DUE.wrong() < MAX_WRONG; run++) {
            new ModelTest(run).play();
        }
        DUE.end();
    }

    private void play() {
        int families = 1 + random.nextInt(16);
        int serials = 1 + random.nextInt(256);
        int wrongBefore = DUE.wrong();
        int calls = 0;
        while (calls < CALLS && DUE.wrong() == wrongBefore) {
            calls += step(families, serials);
        }
        if (DUE.wrong() != wrongBefore) {
            System.out.println("  after: " + told);
        }
    }

    private int step(int families, int serials) {
        int kind = random.nextInt(100);
        if (kind < 30) {
            return call("next", 0, 0, 0);
        }
        if (kind < 40) {
            return call("addDevice", random.nextInt(families), random.nextInt(serials), 0);
        }
        if (kind < 65) {
            return callUndoable(UNDOABLE[random.nextInt(UNDOABLE.length)]);
        }
        if (kind < 72) {
            return call("undo", 0, 0, 0);
        }
        if (kind < 80) {
            return writeAndExecute(families, serials);
        }
        String name = ASKING[random.nextInt(ASKING.length)];
        return call(name, name.equals("errorCount") ? random.nextInt(12) - 10 : argument(8), 0, 0);
    }

    private int callUndoable(String name) {
        switch (name) {
            case "addDevice": return call(name, argument(16), argument(256), 0);
            case "removeDevice": return random.nextInt(3) == 0 ? call(name, argument(8), 0, 0) : 0;
            case "setReading": return call(name, argument(6), measure(), 0);
            case "setAlarm": return call(name, argument(6), argument(4), measure());
            case "setMode": return call(name, random.nextInt(4) == 0 ? argument(3) : 0, 0, 0);
            case "setNoise": return call(name, random.nextInt(2) == 0 ? argument(32) : argument(8), 0, 0);
            default: return call(name, argument(16), 0, 0);
        }
    }

    private int argument(int bound) {
        return random.nextInt(12) == 0 ? ODD[random.nextInt(ODD.length)] : random.nextInt(bound);
    }

    private int measure() {
        return random.nextInt(12) == 0 ? ODD[random.nextInt(ODD.length)] : random.nextInt(9) - 4;
    }

    private int writeAndExecute(int families, int serials) {
        String text = random.nextInt(8) == 0 ? noiseText() : commandText(families, serials);
        int calls = call("clearText", 0, 0, 0);
        for (int index = 0; index < text.length(); index++) {
            calls += call("append", text.charAt(index), 0, 0);
        }
        return calls + call("execute", 0, 0, 0) + call("stopCause", 0, 0, 0);
    }

    private String noiseText() {
        StringBuilder text = new StringBuilder();
        int length = random.nextInt(12);
        for (int index = 0; index < length; index++) {
            text.append(BYTES.charAt(random.nextInt(BYTES.length())));
        }
        return text.toString();
    }

    private String commandText(int families, int serials) {
        StringBuilder text = new StringBuilder();
        int commands = 1 + random.nextInt(6);
        for (int index = 0; index < commands; index++) {
            command(text, families, serials);
        }
        if (random.nextInt(4) == 0) {
            spoil(text);
        }
        spaces(text);
        return text.toString();
    }

    private void command(StringBuilder text, int families, int serials) {
        char letter = random.nextInt(3) == 0 ? 'n' : LETTERS.charAt(random.nextInt(LETTERS.length()));
        spaces(text);
        text.append(letter);
        spaces(text);
        switch (letter) {
            case 'd': text.append(random.nextInt(families)).append(' ').append(random.nextInt(serials)); break;
            case 'x': text.append(random.nextInt(9)); break;
            case 'v': text.append(random.nextInt(4)); signed(text); break;
            case 'l': text.append(random.nextInt(4)).append(' ').append(random.nextInt(4)); signed(text); break;
            case 'm': text.append(random.nextInt(8) == 0 ? 2 : random.nextInt(2)); break;
            default: break;
        }
        spaces(text);
        text.append(';');
    }

    private void signed(StringBuilder text) {
        spaces(text);
        text.append(random.nextBoolean() ? "-" : " ").append(random.nextInt(6));
    }

    private void spaces(StringBuilder text) {
        if (random.nextInt(4) == 0) {
            text.append(' ');
        }
    }

    private void spoil(StringBuilder text) {
        int place = random.nextInt(text.length());
        char sign = BYTES.charAt(random.nextInt(BYTES.length()));
        switch (random.nextInt(3)) {
            case 0: text.setCharAt(place, sign); break;
            case 1: text.insert(place, sign); break;
            default: text.deleteCharAt(place); break;
        }
    }

    private int call(String name, int a, int b, int c) {
        String told1 = name + "(" + a + ", " + b + ", " + c + ")";
        told.append(told1).append("; ");
        DUE.is(told1, Calls.answer(bus, name, a, b, c), model.call(name, a, b, c));
        DUE.is("digest() behind " + told1, bus.digest(), model.call("digest", 0, 0, 0));
        return 2;
    }
}
