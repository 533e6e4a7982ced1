/** Promises 1 to 8: a new object, the devices, their ROM codes and alarms. */
public final class DeviceTest {
    private static final Due DUE = new Due();

    public static void main(String[] args) {
        newObject();
        newObjectsShareNothing();
        addDevice();
        addDeviceChecksInOrder();
        removeDevice();
        deviceAddedAnewIsInitial();
        removeDeviceKeepsTheSearch();
        setReading();
        setAlarm();
        alarmRules();
        romCode();
        alarmedDevices();
        crc();
        DUE.end();
    }

    private static void newObject() {
        RomSearchBus x = new RomSearchBus();
        DUE.is("new: deviceCount()", x.deviceCount(), 0);
        DUE.is("new: alarmedDevices()", x.alarmedDevices(), 0);
        DUE.is("new: currentRom()", x.currentRom(), 0);
        DUE.is("new: lastDiscrepancy()", x.lastDiscrepancy(), -1);
        DUE.is("new: lastFamilyDiscrepancy()", x.lastFamilyDiscrepancy(), -1);
        DUE.is("new: isLastDevice()", x.isLastDevice(), 0);
        DUE.is("new: slotsUsed()", x.slotsUsed(), 0);
        DUE.is("new: stopCause()", x.stopCause(), 0);
        for (int code = -9; code <= -2; code++) {
            DUE.is("new: errorCount(" + code + ")", x.errorCount(code), 0);
        }
        DUE.is("new: clearText()", x.clearText(), 0);
        DUE.is("new: setNoise(-1)", x.setNoise(-1), -1);
        DUE.is("new: setMode(0)", x.setMode(0), 0);
        DUE.is("new: found(0)", x.found(0), -2);
        DUE.is("new: undo() of two calls", x.undo(), 1);
        DUE.is("new: undo() of two calls", x.undo(), 0);
        DUE.is("new: undo() without a saved state", x.undo(), -9);
    }

    private static void newObjectsShareNothing() {
        RomSearchBus one = Due.busOf(1, 5);
        one.next();
        one.append(110);
        RomSearchBus other = new RomSearchBus();
        DUE.is("another object: digest()", other.digest(), StateTest.digestOfNew());
        DUE.is("another object: next()", other.next(), -5);
        DUE.is("the first object: found(0)", one.found(0), 41041);
    }

    private static void addDevice() {
        RomSearchBus x = new RomSearchBus();
        DUE.is("addDevice(0, 0)", x.addDevice(0, 0), 0);
        DUE.is("addDevice(15, 255)", x.addDevice(15, 255), 1);
        DUE.is("addDevice(0, 255)", x.addDevice(0, 255), 2);
        DUE.is("addDevice(15, 0)", x.addDevice(15, 0), 3);
        DUE.is("deviceCount()", x.deviceCount(), 4);
        DUE.is("addDevice(15, 255) again", x.addDevice(15, 255), -3);
        int[][] wrong = {{-1, 0}, {16, 0}, {0, -1}, {0, 256}, {Integer.MIN_VALUE, 0},
            {Integer.MAX_VALUE, 0}, {0, Integer.MIN_VALUE}, {0, Integer.MAX_VALUE}};
        for (int[] pair : wrong) {
            DUE.is("addDevice(" + pair[0] + ", " + pair[1] + ")", x.addDevice(pair[0], pair[1]), -2);
        }
        DUE.is("deviceCount() behind refused ones", x.deviceCount(), 4);
        DUE.is("errorCount(-2)", x.errorCount(-2), wrong.length);
        DUE.is("errorCount(-3)", x.errorCount(-3), 1);
        DUE.is("undo() of four", x.undo(), 3);
        DUE.is("deviceCount() behind undo", x.deviceCount(), 3);
        DUE.is("addDevice(15, 0) behind undo", x.addDevice(15, 0), 3);
    }

    private static void addDeviceChecksInOrder() {
        RomSearchBus x = Due.busOf(0, 0, 0, 1, 0, 2, 0, 3, 0, 4, 0, 5, 0, 6);
        DUE.is("the eighth device", x.addDevice(0, 7), 7);
        DUE.is("the ninth device", x.addDevice(0, 8), -4);
        DUE.is("a duplicate on a full bus", x.addDevice(0, 7), -3);
        DUE.is("out of range on a full bus", x.addDevice(16, 7), -2);
        DUE.is("errorCount(-4)", x.errorCount(-4), 1);
        DUE.is("removeDevice(3)", x.removeDevice(3), 7);
        DUE.is("room again", x.addDevice(0, 8), 7);
    }

    private static void removeDevice() {
        RomSearchBus x = Due.busOf(1, 5, 1, 6, 2, 5);
        x.setAlarm(1, 1, 3);
        x.setReading(1, 4);
        x.setAlarm(2, 2, 9);
        x.setReading(2, 8);
        DUE.is("alarmedDevices()", x.alarmedDevices(), 6);
        for (int device : new int[] {-1, 3, 8, Integer.MIN_VALUE, Integer.MAX_VALUE}) {
            DUE.is("removeDevice(" + device + ")", x.removeDevice(device), -2);
        }
        DUE.is("errorCount(-2)", x.errorCount(-2), 5);
        DUE.is("removeDevice(0)", x.removeDevice(0), 2);
        DUE.is("romCode(0), moved down", x.romCode(0), 12385);
        DUE.is("romCode(1), moved down", x.romCode(1), 45138);
        DUE.is("romCode(2), gone", x.romCode(2), -2);
        DUE.is("alarmedDevices(), moved down", x.alarmedDevices(), 3);
        DUE.is("removeDevice(1), the last", x.removeDevice(1), 1);
        DUE.is("addDevice(2, 5) again", x.addDevice(2, 5), 1);
        DUE.is("a device added anew has rule 0", x.alarmedDevices(), 1);
        DUE.is("its limit and reading are 0", x.setAlarm(1, 1, 0), 0);
        DUE.is("its reading is 0", x.setAlarm(1, 1, -1), 1);
        DUE.is("undo()", x.undo(), 4);
        x.undo();
        x.undo();
        DUE.is("undo() of the removal", x.undo(), 1);
        DUE.is("deviceCount() behind undo", x.deviceCount(), 2);
        x.undo();
        DUE.is("romCode(0) is back", x.romCode(0), 41041);
        DUE.is("alarmedDevices() is back", x.alarmedDevices(), 6);
    }

    /** A place that a removed device had leaves nothing to the device that comes next. */
    private static void deviceAddedAnewIsInitial() {
        RomSearchBus x = Due.busOf(3, 7);
        x.setReading(0, -5);
        x.setAlarm(0, 2, 9);
        x.removeDevice(0);
        x.addDevice(3, 7);
        RomSearchBus fresh = Due.busOf(3, 7);
        for (int call = 0; call < 4; call++) {
            fresh.resetSearch();
        }
        DUE.is("digest() of a device added anew", x.digest(), fresh.digest());
        DUE.is("setReading(0, -1) of a device added anew", x.setReading(0, -1), 0);
    }

    private static void removeDeviceKeepsTheSearch() {
        RomSearchBus x = Due.busOf(1, 5, 1, 6, 2, 5);
        x.next();
        x.next();
        x.setNoise(9);
        DUE.is("removeDevice(1)", x.removeDevice(1), 2);
        DUE.is("removal: currentRom()", x.currentRom(), 12385);
        DUE.is("removal: lastDiscrepancy()", x.lastDiscrepancy(), 4);
        DUE.is("removal: lastFamilyDiscrepancy()", x.lastFamilyDiscrepancy(), 0);
        DUE.is("removal: slotsUsed()", x.slotsUsed(), 96);
        DUE.is("removal: found(1)", x.found(1), 12385);
        DUE.is("removal: setNoise(-1)", x.setNoise(-1), 9);
        x.removeDevice(0);
        DUE.is("removeDevice(0), the last on the bus", x.removeDevice(0), 0);
        DUE.is("next() on the emptied bus", x.next(), -5);
    }

    private static void setReading() {
        RomSearchBus x = Due.busOf(3, 7);
        DUE.is("setReading(0, 999) with rule 0", x.setReading(0, 999), 0);
        DUE.is("setReading(0, -999)", x.setReading(0, -999), 0);
        x.setAlarm(0, 1, 0);
        DUE.is("setReading(0, 1) above 0", x.setReading(0, 1), 1);
        DUE.is("setReading(0, 0) at 0", x.setReading(0, 0), 0);
        int[][] wrong = {{0, 1000}, {0, -1000}, {1, 0}, {-1, 0}, {8, 0}, {0, Integer.MIN_VALUE},
            {0, Integer.MAX_VALUE}, {Integer.MIN_VALUE, 0}, {Integer.MAX_VALUE, 0}};
        for (int[] pair : wrong) {
            DUE.is("setReading(" + pair[0] + ", " + pair[1] + ")", x.setReading(pair[0], pair[1]), -2);
        }
        DUE.is("errorCount(-2)", x.errorCount(-2), wrong.length);
        DUE.is("alarmedDevices() behind refused ones", x.alarmedDevices(), 0);
        DUE.is("undo() of setReading(0, 0)", x.undo(), 4);
        DUE.is("alarmedDevices() behind undo", x.alarmedDevices(), 1);
    }

    private static void setAlarm() {
        RomSearchBus x = Due.busOf(3, 7);
        x.setReading(0, 5);
        DUE.is("setAlarm(0, 1, 4)", x.setAlarm(0, 1, 4), 1);
        DUE.is("setAlarm(0, 0, 4)", x.setAlarm(0, 0, 4), 0);
        DUE.is("setAlarm(0, 3, 999)", x.setAlarm(0, 3, 999), 0);
        DUE.is("setAlarm(0, 1, -999)", x.setAlarm(0, 1, -999), 1);
        int[][] wrong = {{1, 0, 0}, {-1, 0, 0}, {8, 0, 0}, {0, -1, 0}, {0, 4, 0}, {0, 0, 1000},
            {0, 0, -1000}, {0, Integer.MAX_VALUE, 0}, {0, 0, Integer.MIN_VALUE}};
        for (int[] a : wrong) {
            DUE.is("setAlarm(" + a[0] + ", " + a[1] + ", " + a[2] + ")", x.setAlarm(a[0], a[1], a[2]), -2);
        }
        DUE.is("errorCount(-2)", x.errorCount(-2), wrong.length);
        DUE.is("alarmedDevices() behind refused ones", x.alarmedDevices(), 1);
        DUE.is("undo() of setAlarm", x.undo(), 4);
        DUE.is("alarmedDevices() behind undo", x.alarmedDevices(), 0);
    }

    private static void alarmRules() {
        int[][] rows = {
            {0, 0, 5, 0}, {0, 0, -5, 0},
            {1, 10, 11, 1}, {1, 10, 10, 0}, {1, 10, 9, 0}, {1, -10, -9, 1}, {1, -10, -10, 0},
            {2, -5, -6, 1}, {2, -5, -5, 0}, {2, -5, -4, 0}, {2, 5, 4, 1}, {2, 5, 5, 0},
            {3, 7, 8, 1}, {3, 7, -8, 1}, {3, 7, 7, 0}, {3, 7, -7, 0}, {3, -7, 8, 1}, {3, -7, -8, 1},
            {3, -7, 7, 0}, {3, -7, 6, 0}, {3, 0, 0, 0}, {3, -999, 999, 0}, {3, -998, -999, 1}};
        for (int[] row : rows) {
            RomSearchBus x = Due.busOf(3, 7);
            x.setReading(0, row[2]);
            String told = "rule " + row[0] + ", limit " + row[1] + ", reading " + row[2];
            DUE.is(told, x.setAlarm(0, row[0], row[1]), row[3]);
            DUE.is(told + ", set again", x.setReading(0, row[2]), row[3]);
            DUE.is(told + ", as a set", x.alarmedDevices(), row[3]);
        }
    }

    private static void romCode() {
        RomSearchBus x = Due.busOf(1, 5, 15, 255, 0, 0, 3, 7);
        DUE.is("romCode(0)", x.romCode(0), 41041);
        DUE.is("romCode(1)", x.romCode(1), 32767 | x.crc(4095) << 12);
        DUE.is("romCode(2)", x.romCode(2), 0);
        DUE.is("romCode(3)", x.romCode(3), 53363);
        for (int device : new int[] {-1, 4, 8, Integer.MIN_VALUE, Integer.MAX_VALUE}) {
            DUE.is("romCode(" + device + ")", x.romCode(device), -2);
        }
        DUE.is("errorCount(-2)", x.errorCount(-2), 5);
        DUE.is("romCode saves no state: undo()", x.undo(), 3);
    }

    private static void alarmedDevices() {
        RomSearchBus x = Due.busOf(0, 0, 0, 1, 0, 2, 0, 3, 0, 4, 0, 5, 0, 6, 0, 7);
        for (int device = 0; device < 8; device++) {
            DUE.is("alarm of device " + device, x.setAlarm(device, 2, 1), 1);
        }
        DUE.is("alarmedDevices(), all", x.alarmedDevices(), 255);
        x.setReading(0, 1);
        x.setReading(6, 1);
        DUE.is("alarmedDevices(), but two", x.alarmedDevices(), 255 - 1 - 64);
    }

    private static void crc() {
        RomSearchBus x = new RomSearchBus();
        for (int value = 0; value <= 4095; value++) {
            DUE.is("crc(" + value + ")", new RomSearchBus().crc(value), Model.checksum(value));
        }
        DUE.is("crc of example 1", x.crc(5 * 16 + 1), 41041 >> 12);
        DUE.is("crc of example 2", x.crc(7 * 16 + 3), 53363 >> 12);
        for (int value : new int[] {-1, 4096, Integer.MIN_VALUE, Integer.MAX_VALUE}) {
            DUE.is("crc(" + value + ")", x.crc(value), -2);
        }
        DUE.is("errorCount(-2)", x.errorCount(-2), 4);
        DUE.is("crc saves no state: undo()", x.undo(), -9);
    }
}
