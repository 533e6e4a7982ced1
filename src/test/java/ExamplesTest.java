/** The five examples of the document's Description, call by call. */
public final class ExamplesTest {
    private static final Due DUE = new Due();

    public static void main(String[] args) {
        searchFindsThreeDevices();
        emptyBusDuplicateAndAlarmSearch();
        noiseHidesADevice();
        skippingAndTargetingAFamily();
        stoppedExecutionAndShortText();
        DUE.end();
    }

    private static void searchFindsThreeDevices() {
        RomSearchBus x = new RomSearchBus();
        DUE.is("1: addDevice(1, 5)", x.addDevice(1, 5), 0);
        DUE.is("1: addDevice(1, 6)", x.addDevice(1, 6), 1);
        DUE.is("1: addDevice(2, 5)", x.addDevice(2, 5), 2);
        DUE.is("1: romCode(0)", x.romCode(0), 41041);
        DUE.is("1: romCode(1)", x.romCode(1), 12385);
        DUE.is("1: romCode(2)", x.romCode(2), 45138);
        DUE.is("1: next()", x.next(), 45138);
        DUE.is("1: lastDiscrepancy()", x.lastDiscrepancy(), 0);
        DUE.is("1: next()", x.next(), 12385);
        DUE.is("1: next()", x.next(), 41041);
        DUE.is("1: next()", x.next(), -8);
        DUE.is("1: slotsUsed()", x.slotsUsed(), 144);
    }

    private static void emptyBusDuplicateAndAlarmSearch() {
        RomSearchBus x = new RomSearchBus();
        DUE.is("2: next()", x.next(), -5);
        DUE.is("2: addDevice(3, 7)", x.addDevice(3, 7), 0);
        DUE.is("2: addDevice(3, 7)", x.addDevice(3, 7), -3);
        DUE.is("2: setMode(1)", x.setMode(1), 0);
        DUE.is("2: next()", x.next(), -6);
        DUE.is("2: setAlarm(0, 1, 10)", x.setAlarm(0, 1, 10), 0);
        DUE.is("2: setReading(0, 11)", x.setReading(0, 11), 1);
        DUE.is("2: next()", x.next(), 53363);
    }

    private static void noiseHidesADevice() {
        RomSearchBus x = new RomSearchBus();
        DUE.is("3: addDevice(0, 0)", x.addDevice(0, 0), 0);
        DUE.is("3: addDevice(1, 0)", x.addDevice(1, 0), 1);
        DUE.is("3: setNoise(1)", x.setNoise(1), -1);
        DUE.is("3: next()", x.next(), 0);
        DUE.is("3: next()", x.next(), -8);
        DUE.is("3: next()", x.next(), 0);
    }

    private static void skippingAndTargetingAFamily() {
        RomSearchBus x = new RomSearchBus();
        DUE.is("4: addDevice(1, 1)", x.addDevice(1, 1), 0);
        DUE.is("4: addDevice(1, 2)", x.addDevice(1, 2), 1);
        DUE.is("4: addDevice(4, 9)", x.addDevice(4, 9), 2);
        DUE.is("4: next()", x.next(), 24724);
        DUE.is("4: skipFamily()", x.skipFamily(), 0);
        DUE.is("4: next()", x.next(), 24609);
        DUE.is("4: next()", x.next(), 61457);
        DUE.is("4: targetFamily(1)", x.targetFamily(1), 1);
        DUE.is("4: next()", x.next(), 24609);
    }

    private static void stoppedExecutionAndShortText() {
        RomSearchBus x = new RomSearchBus();
        DUE.is("5: clearText()", x.clearText(), 0);
        appendAll(x, 100, 49, 32, 53, 59, 120, 55, 59);
        DUE.is("5: execute()", x.execute(), -1001);
        DUE.is("5: stopCause()", x.stopCause(), -2);
        DUE.is("5: deviceCount()", x.deviceCount(), 0);
        DUE.is("5: clearText()", x.clearText(), 8);
        appendAll(x, 100, 49, 32, 53, 59, 110);
        DUE.is("5: execute()", x.execute(), -16);
    }

    private static void appendAll(RomSearchBus x, int... bytes) {
        for (int index = 0; index < bytes.length; index++) {
            DUE.is("5: append(" + bytes[index] + ")", x.append(bytes[index]), index + 1);
        }
    }
}
