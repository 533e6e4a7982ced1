/** Promises 27 to 30: undo, the error counters, the number of devices and the digest. */
public final class StateTest {
    private static final Due DUE = new Due();

    public static void main(String[] args) {
        undoKeepsFive();
        undoRestoresAll();
        undoLeavesTheRest();
        undoOfCallsThatChangeNothing();
        refusedCallsSaveNothing();
        savedStatesStayApart();
        errorCount();
        deviceCount();
        digest();
        digestSeesEveryPart();
        DUE.end();
    }

    static long digestOfNew() {
        return hashOf(0, 0, 0, 0, 0, 0, 0, 0, 0, 0, -1, -1, 0, 0, -1, 0, 0, 0, 0, 0);
    }

    static long hashOf(long... values) {
        long h = 2633;
        for (long v : values) {
            h = 31 * h + v;
        }
        return h;
    }

    private static void undoKeepsFive() {
        RomSearchBus x = new RomSearchBus();
        for (int serial = 0; serial < 7; serial++) {
            x.addDevice(0, serial);
        }
        for (int left = 4; left >= 0; left--) {
            DUE.is("undo()", x.undo(), left);
            DUE.is("deviceCount()", x.deviceCount(), left + 2);
            DUE.is("the last that stays", x.romCode(left + 1) & 0xFFF, (left + 1) * 16);
        }
        DUE.is("undo() without a saved state", x.undo(), -9);
        DUE.is("undo() without a saved state", x.undo(), -9);
        DUE.is("deviceCount()", x.deviceCount(), 2);
        DUE.is("errorCount(-9)", x.errorCount(-9), 2);
        x.addDevice(0, 9);
        DUE.is("undo() of one", x.undo(), 0);
    }

    private static void undoRestoresAll() {
        RomSearchBus x = Due.busOf(1, 5, 1, 6, 2, 5);
        x.setAlarm(1, 1, 3);
        x.setReading(1, 4);
        x.next();
        x.setNoise(12);
        RomSearchBus y = Due.busOf(1, 5, 1, 6, 2, 5);
        y.setAlarm(1, 1, 3);
        y.setReading(1, 4);
        y.next();
        y.setNoise(12);
        Due.run(x, "x0;d4 4;v0 1;l1 2 9;m1;n;n;k;n;");
        x.clearText();
        x.undo();
        y.resetSearch();
        y.undo();
        DUE.is("digest() behind undo", x.digest(), y.digest());
        DUE.is("setNoise(-1) behind undo", x.setNoise(-1), 12);
    }

    private static void undoLeavesTheRest() {
        RomSearchBus x = Due.busOf(1, 5);
        x.next();
        x.next();
        Due.run(x, "x5;");
        x.addDevice(-1, 0);
        DUE.is("undo()", x.undo(), 2);
        DUE.is("undo leaves the counter of NO_MORE", x.errorCount(-8), 1);
        DUE.is("undo leaves the counter of OUT_OF_RANGE", x.errorCount(-2), 1);
        DUE.is("undo leaves stopCause()", x.stopCause(), -2);
        DUE.is("undo leaves the text", x.clearText(), 3);
    }

    private static void undoOfCallsThatChangeNothing() {
        RomSearchBus x = new RomSearchBus();
        x.resetSearch();
        x.setMode(0);
        x.setNoise(-1);
        DUE.is("undo() of three", x.undo(), 2);
        DUE.is("undo() of three", x.undo(), 1);
        DUE.is("undo() of three", x.undo(), 0);
    }

    private static void refusedCallsSaveNothing() {
        RomSearchBus x = new RomSearchBus();
        x.addDevice(16, 0);
        x.removeDevice(0);
        x.setReading(0, 0);
        x.setAlarm(0, 0, 0);
        x.setMode(2);
        x.targetFamily(16);
        x.setNoise(32);
        DUE.is("undo() behind refused calls", x.undo(), -9);
        DUE.is("errorCount(-2)", x.errorCount(-2), 7);
    }

    /** A state that was restored or dropped must not change one that is still saved. */
    private static void savedStatesStayApart() {
        RomSearchBus x = new RomSearchBus();
        Model model = new Model();
        for (int round = 0; round < 30; round++) {
            int serial = round * 7 % 256;
            DUE.is("addDevice", x.addDevice(round % 3, serial), model.call("addDevice", round % 3, serial, 0));
            DUE.is("setAlarm", x.setAlarm(0, 2, round), model.call("setAlarm", 0, 2, round));
            DUE.is("next", x.next(), model.call("next", 0, 0, 0));
            for (int back = 0; back < round % 4; back++) {
                DUE.is("undo", x.undo(), model.call("undo", 0, 0, 0));
                DUE.is("digest", x.digest(), model.call("digest", 0, 0, 0));
            }
        }
    }

    private static void errorCount() {
        RomSearchBus x = new RomSearchBus();
        for (int code : new int[] {-10, -1, 0, 1, Integer.MIN_VALUE, Integer.MAX_VALUE}) {
            DUE.is("errorCount(" + code + ")", x.errorCount(code), -2);
        }
        DUE.is("errorCount(-2) counts them", x.errorCount(-2), 6);
        x.addDevice(1, 5);
        x.addDevice(1, 5);
        x.addDevice(1, 5);
        DUE.is("errorCount(-3)", x.errorCount(-3), 2);
        for (int code = -9; code <= -4; code++) {
            DUE.is("errorCount(" + code + ")", x.errorCount(code), 0);
        }
        DUE.is("errorCount saves no state: undo()", x.undo(), 0);
        x.undo();
        DUE.is("errorCount(-9)", x.errorCount(-9), 1);
        x.next();
        DUE.is("errorCount(-5)", x.errorCount(-5), 1);
    }

    private static void deviceCount() {
        RomSearchBus x = new RomSearchBus();
        for (int serial = 0; serial < 8; serial++) {
            x.addDevice(3, serial);
            DUE.is("deviceCount()", x.deviceCount(), serial + 1);
        }
        x.addDevice(3, 8);
        DUE.is("deviceCount() of a full bus", x.deviceCount(), 8);
        x.removeDevice(0);
        DUE.is("deviceCount() behind a removal", x.deviceCount(), 7);
    }

    private static void digest() {
        RomSearchBus x = new RomSearchBus();
        DUE.is("digest() of a new object", x.digest(), digestOfNew());
        x.addDevice(1, 5);
        x.addDevice(2, 5);
        x.addDevice(2, 5);
        x.addDevice(2, -5);
        x.setReading(1, -7);
        x.setAlarm(1, 3, -6);
        x.next();
        x.setMode(1);
        x.next();
        x.next();
        x.undo();
        x.setNoise(17);
        Due.run(x, "x0;x9;");
        DUE.is("digest()", x.digest(), hashOf(1, 1, 0, 0, 0, 0, 1, 0,
                2, 41041, 0, 0, 0, 45138, -7, 3, -6,
                45138, -1, -1, 1, 1, 17, 96, 1, 45138, 6, 5, -2));
        DUE.is("digest() again", x.digest(), x.digest());
    }

    private static void digestSeesEveryPart() {
        RomSearchBus x = new RomSearchBus();
        long[] seen = new long[9];
        seen[0] = x.digest();
        x.append(110);
        seen[1] = x.digest();
        x.undo();
        seen[2] = x.digest();
        x.setNoise(0);
        seen[3] = x.digest();
        x.targetFamily(3);
        seen[4] = x.digest();
        x.addDevice(1, 5);
        seen[5] = x.digest();
        x.setReading(0, 1);
        seen[6] = x.digest();
        x.setAlarm(0, 0, 1);
        seen[7] = x.digest();
        x.setAlarm(0, 1, 1);
        seen[8] = x.digest();
        for (int one = 0; one < seen.length; one++) {
            for (int other = 0; other < one; other++) {
                DUE.holds("digests " + other + " and " + one + " differ", seen[one] != seen[other]);
            }
        }
    }
}
