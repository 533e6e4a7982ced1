/** A call of the face by its name, so that tests can hold calls in tables. */
final class Calls {
    static final int NO_ARGUMENT = 0;

    private Calls() {
    }

    static String told(String name, int... arguments) {
        StringBuilder text = new StringBuilder(name).append('(');
        for (int index = 0; index < arguments.length; index++) {
            text.append(index == 0 ? "" : ", ").append(arguments[index]);
        }
        return text.append(')').toString();
    }

    /** Arguments that the call does not take are left out or of no meaning. */
    static long answer(RomSearchBus bus, String name, int... arguments) {
        int a = arguments.length > 0 ? arguments[0] : NO_ARGUMENT;
        int b = arguments.length > 1 ? arguments[1] : NO_ARGUMENT;
        int c = arguments.length > 2 ? arguments[2] : NO_ARGUMENT;
        switch (name) {
            case "addDevice": return bus.addDevice(a, b);
            case "removeDevice": return bus.removeDevice(a);
            case "setReading": return bus.setReading(a, b);
            case "setAlarm": return bus.setAlarm(a, b, c);
            case "romCode": return bus.romCode(a);
            case "alarmedDevices": return bus.alarmedDevices();
            case "crc": return bus.crc(a);
            case "setMode": return bus.setMode(a);
            case "resetSearch": return bus.resetSearch();
            case "next": return bus.next();
            case "skipFamily": return bus.skipFamily();
            case "targetFamily": return bus.targetFamily(a);
            case "setNoise": return bus.setNoise(a);
            case "countAhead": return bus.countAhead();
            case "currentRom": return bus.currentRom();
            case "lastDiscrepancy": return bus.lastDiscrepancy();
            case "lastFamilyDiscrepancy": return bus.lastFamilyDiscrepancy();
            case "isLastDevice": return bus.isLastDevice();
            case "slotsUsed": return bus.slotsUsed();
            case "found": return bus.found(a);
            case "familyShareBits": return bus.familyShareBits(a);
            case "append": return bus.append(a);
            case "clearText": return bus.clearText();
            case "execute": return bus.execute();
            case "stopCause": return bus.stopCause();
            case "undo": return bus.undo();
            case "errorCount": return bus.errorCount(a);
            case "deviceCount": return bus.deviceCount();
            case "digest": return bus.digest();
            default: throw new IllegalStateException(name);
        }
    }
}
