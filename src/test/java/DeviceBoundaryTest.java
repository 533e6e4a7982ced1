/**
 * The boundary cases of ROM codes and devices: the Description's "ROM codes"
 * and "Devices", and promises 1 to 8. Each method tests the sentence above it.
 */
public final class DeviceBoundaryTest {
    private static final Due DUE = new Due();
    private static final int LEAST = Integer.MIN_VALUE;
    private static final int GREATEST = Integer.MAX_VALUE;

    public static void main(String[] args) {
        romCodeIsUnsigned();
        romCodeHoldsItsParts();
        crcOfEachBit();
        eightDevicesAtMost();
        numbersInTheOrderOfAdding();
        noTwoDevicesAlike();
        initialReadingRuleAndLimit();
        initialWhereAnotherDeviceWas();
        ruleZero();
        ruleOne();
        ruleTwo();
        ruleThree();
        newObject();
        addDeviceFamily();
        addDeviceSerial();
        addDeviceRangeIsCheckedFirst();
        addDeviceDuplicateIsCheckedSecond();
        addDeviceFull();
        addDeviceOutOfRangeInBoth();
        removeDeviceRange();
        removeDeviceMovesTheHigherOnes();
        removeDeviceDownToNone();
        removeDeviceLeavesTheSearch();
        setReadingDevice();
        setReadingValue();
        setReadingWrongInBoth();
        setAlarmDevice();
        setAlarmRule();
        setAlarmLimit();
        setAlarmWrongInAll();
        romCodeRange();
        alarmedDevicesOfNone();
        alarmedDevicesOfEight();
        crcRange();
        DUE.end();
    }

    // ---- Description: ROM codes

    /** "A ROM code is an unsigned 16-bit number": bit 15 makes it no negative one, wherever it is told. */
    private static void romCodeIsUnsigned() {
        RomSearchBus x = Due.busOf(1, 5);
        DUE.is("romCode(0) with bit 15", x.romCode(0), 41041);
        DUE.is("next() with bit 15", x.next(), 41041);
        DUE.is("currentRom() with bit 15", x.currentRom(), 41041);
        DUE.is("found(0) with bit 15", x.found(0), 41041);
        DUE.is("resetSearch() with bit 15", x.resetSearch(), 41041);
        RomSearchBus least = Due.busOf(0, 0);
        DUE.is("the least ROM code", least.romCode(0), 0);
        DUE.is("next() of the least ROM code", least.next(), 0);
        DUE.is("found(0) of the least ROM code", least.found(0), 0);
        DUE.is("all bits of family and serial number", Due.busOf(15, 255).romCode(0), 32767);
        DUE.is("next() of all these bits", Due.busOf(15, 255).next(), 32767);
    }

    /** "Bits 0 to 3 hold the family (0 to 15), bits 4 to 11 .. the serial number .., bits 12 to 15 .. the CRC". */
    private static void romCodeHoldsItsParts() {
        for (int family = 0; family <= 15; family++) {
            for (int serial = 0; serial <= 255; serial++) {
                int rom = Due.busOf(family, serial).romCode(0);
                String told = "ROM code of " + family + ", " + serial;
                DUE.is(told + ": family", rom & 15, family);
                DUE.is(told + ": serial number", (rom >> 4) & 255, serial);
                DUE.is(told + ": CRC", rom >> 12, crcByTheBook(16 * serial + family));
            }
        }
    }

    /** "start with crc = 0 .. for each of the bits 0 to 11 .. let mix be .. shift .. XOR crc with 12". */
    private static int crcByTheBook(int value) {
        int crc = 0;
        for (int bit = 0; bit <= 11; bit++) {
            int mix = (value >> bit & 1) ^ (crc & 1);
            crc = crc >> 1;
            if (mix == 1) {
                crc = crc ^ 12;
            }
        }
        return crc;
    }

    /** "for each of the bits 0 to 11, in this order": worked out by hand from bit 11, which is shifted last. */
    private static void crcOfEachBit() {
        int[] byHand = {8, 9, 11, 15, 7, 14, 5, 10, 13, 3, 6, 12};
        RomSearchBus x = new RomSearchBus();
        for (int bit = 0; bit <= 11; bit++) {
            DUE.is("crc(" + (1 << bit) + ")", x.crc(1 << bit), byHand[bit]);
        }
        DUE.is("crc(0)", x.crc(0), 0);
        DUE.is("crc(4095)", x.crc(4095), 7);
    }

    // ---- Description: Devices

    /** "The bus has at most 8 devices". */
    private static void eightDevicesAtMost() {
        RomSearchBus x = new RomSearchBus();
        for (int serial = 0; serial < 8; serial++) {
            DUE.is("device " + serial, x.addDevice(7, serial), serial);
        }
        DUE.is("the ninth", x.addDevice(7, 8), -4);
        DUE.is("deviceCount()", x.deviceCount(), 8);
        DUE.is("romCode(7)", x.romCode(7) & 4095, 7 * 16 + 7);
        DUE.is("romCode(8)", x.romCode(8), -2);
    }

    /** "numbered from 0 in the order in which they were added". */
    private static void numbersInTheOrderOfAdding() {
        RomSearchBus x = Due.busOf(15, 255, 0, 0, 7, 100);
        DUE.is("romCode(0), added first", x.romCode(0) & 4095, 4095);
        DUE.is("romCode(1), added second", x.romCode(1) & 4095, 0);
        DUE.is("romCode(2), added third", x.romCode(2) & 4095, 1607);
    }

    /** "No two devices have the same ROM code": the first and the last of eight, and again when it is gone. */
    private static void noTwoDevicesAlike() {
        RomSearchBus x = Due.busOf(0, 0, 0, 1, 0, 2, 0, 3, 0, 4, 0, 5, 0, 6);
        DUE.is("the first again", x.addDevice(0, 0), -3);
        DUE.is("the last again", x.addDevice(0, 6), -3);
        DUE.is("the same serial number in another family", x.addDevice(1, 6), 7);
        x.removeDevice(0);
        DUE.is("one that is gone", x.addDevice(0, 0), 7);
        DUE.is("and again", x.addDevice(0, 0), -3);
    }

    /** "Each device has a reading (.. initially 0) .. Initially the rule is 0 and the limit is 0". */
    private static void initialReadingRuleAndLimit() {
        RomSearchBus x = Due.busOf(3, 7);
        DUE.is("the rule is 0", x.setReading(0, 999), 0);
        DUE.is("the rule is 0", x.setReading(0, -999), 0);
        RomSearchBus y = Due.busOf(3, 7);
        DUE.is("the reading is not above 0", y.setAlarm(0, 1, 0), 0);
        DUE.is("the reading is above -1", y.setAlarm(0, 1, -1), 1);
        DUE.is("the reading is not below 0", y.setAlarm(0, 2, 0), 0);
        DUE.is("the reading is below 1", y.setAlarm(0, 2, 1), 1);
        DUE.is("digest() with reading, rule and limit 0", Due.busOf(3, 7).digest(), StateTest.hashOf(
                0, 0, 0, 0, 0, 0, 0, 0, 1, 53363, 0, 0, 0, 0, -1, -1, 0, 0, -1, 0, 0, 0, 1, 0));
    }

    /** "initially": also on the place of a device that was removed, and of one that was undone. */
    private static void initialWhereAnotherDeviceWas() {
        RomSearchBus x = Due.busOf(3, 7);
        x.setReading(0, -5);
        x.setAlarm(0, 2, 9);
        x.removeDevice(0);
        DUE.is("addDevice(1, 5)", x.addDevice(1, 5), 0);
        DUE.is("digest() of a device where another was", x.digest(), StateTest.hashOf(
                0, 0, 0, 0, 0, 0, 0, 0, 1, 41041, 0, 0, 0, 0, -1, -1, 0, 0, -1, 0, 0, 0, 5, 0));
        RomSearchBus y = new RomSearchBus();
        Due.run(y, "d3 7;v0-5;l0 2 9;");
        y.undo();
        y.clearText();
        DUE.is("addDevice(1, 5) behind undo", y.addDevice(1, 5), 0);
        DUE.is("digest() of a device where one was undone", y.digest(), Due.busOf(1, 5).digest());
    }

    private static void alarm(int rule, int limit, int reading, int alarmed) {
        String told = "rule " + rule + ", limit " + limit + ", reading " + reading;
        RomSearchBus x = Due.busOf(3, 7);
        x.setReading(0, reading);
        DUE.is(told + ", the rule set last", x.setAlarm(0, rule, limit), alarmed);
        RomSearchBus y = Due.busOf(3, 7);
        y.setAlarm(0, rule, limit);
        DUE.is(told + ", the reading set last", y.setReading(0, reading), alarmed);
        DUE.is(told + ", alarmedDevices()", y.alarmedDevices(), alarmed);
        y.setMode(1);
        DUE.is(told + ", next() in mode 1", y.next(), alarmed == 1 ? 53363 : -6);
    }

    /** "0 = never alarmed". */
    private static void ruleZero() {
        for (int reading : new int[] {-999, -1, 0, 1, 999}) {
            for (int limit : new int[] {-999, 0, 999}) {
                alarm(0, limit, reading, 0);
            }
        }
    }

    /** "1 = alarmed if the reading is greater than the limit". */
    private static void ruleOne() {
        for (int limit : new int[] {-998, -1, 0, 1, 998}) {
            alarm(1, limit, limit - 1, 0);
            alarm(1, limit, limit, 0);
            alarm(1, limit, limit + 1, 1);
        }
        alarm(1, -999, -999, 0);
        alarm(1, -999, -998, 1);
        alarm(1, 999, 999, 0);
        alarm(1, -999, 999, 1);
        alarm(1, 999, -999, 0);
    }

    /** "2 = alarmed if the reading is less than the limit". */
    private static void ruleTwo() {
        for (int limit : new int[] {-998, -1, 0, 1, 998}) {
            alarm(2, limit, limit - 1, 1);
            alarm(2, limit, limit, 0);
            alarm(2, limit, limit + 1, 0);
        }
        alarm(2, -999, -999, 0);
        alarm(2, 999, 999, 0);
        alarm(2, 999, 998, 1);
        alarm(2, 999, -999, 1);
        alarm(2, -999, 999, 0);
    }

    /** "3 = alarmed if the absolute value of the reading is greater than the absolute value of the limit". */
    private static void ruleThree() {
        for (int limit : new int[] {0, 1, 7, 998}) {
            for (int sign : new int[] {-1, 1}) {
                alarm(3, sign * limit, limit, 0);
                alarm(3, sign * limit, -limit, 0);
                alarm(3, sign * limit, limit + 1, 1);
                alarm(3, sign * limit, -limit - 1, 1);
            }
        }
        alarm(3, 7, 6, 0);
        alarm(3, -7, -6, 0);
        alarm(3, -999, 999, 0);
        alarm(3, 999, -999, 0);
    }

    // ---- Promise 1

    /** "Creates an empty bus with the initial state .. no noise, no time slots used, an empty history, an empty command text". */
    private static void newObject() {
        RomSearchBus x = new RomSearchBus();
        DUE.is("new: digest()", x.digest(), StateTest.digestOfNew());
        DUE.is("new: deviceCount()", x.deviceCount(), 0);
        DUE.is("new: romCode(0)", x.romCode(0), -2);
        DUE.is("new: found(0)", x.found(0), -2);
        DUE.is("new: slotsUsed()", x.slotsUsed(), 0);
        DUE.is("new: execute() of an empty text", x.execute(), -10);
        DUE.is("new: clearText()", x.clearText(), 0);
        DUE.is("new: undo()", x.undo(), -9);
        DUE.is("new: next()", x.next(), -5);
        DUE.is("new: setNoise(0), no noise before", x.setNoise(0), -1);
        DUE.is("new: setMode(1), mode 0 before", x.setMode(1), 0);
    }

    // ---- Promise 2

    /** "family: family, 0 to 15" and "OUT_OF_RANGE if an argument is out of range". */
    private static void addDeviceFamily() {
        Ranges.argument(DUE, "addDevice", 0, 0, 15, 0, 77);
        DUE.is("family 0", Due.busOf(0, 77).romCode(0) & 15, 0);
        DUE.is("family 15", Due.busOf(15, 77).romCode(0) & 15, 15);
    }

    /** "serial: serial number, 0 to 255" and "OUT_OF_RANGE if an argument is out of range". */
    private static void addDeviceSerial() {
        Ranges.argument(DUE, "addDevice", 1, 0, 255, 9, 0);
        DUE.is("serial number 0", Due.busOf(9, 0).romCode(0) & 4095, 9);
        DUE.is("serial number 255", Due.busOf(9, 255).romCode(0) & 4095, 255 * 16 + 9);
    }

    /** "OUT_OF_RANGE .. (checked first)": before a duplicate that its low bits would make, and on a full bus. */
    private static void addDeviceRangeIsCheckedFirst() {
        RomSearchBus x = Due.busOf(1, 5, 0, 1);
        DUE.is("family 17, of which 1 is the low half", x.addDevice(17, 5), -2);
        DUE.is("serial number 261, of which 5 is the low byte", x.addDevice(1, 261), -2);
        DUE.is("family 16, that would be serial number 1", x.addDevice(16, 0), -2);
        DUE.is("errorCount(-3)", x.errorCount(-3), 0);
        for (int wrong : new int[] {-1, 16, LEAST, GREATEST}) {
            Ranges.refused(DUE, Fixture.FULL, -2, "addDevice", wrong, 0);
        }
        for (int wrong : new int[] {-1, 256, LEAST, GREATEST}) {
            Ranges.refused(DUE, Fixture.FULL, -2, "addDevice", 0, wrong);
        }
    }

    /** "DUPLICATE if a device has the same family and serial number (checked second)": before FULL. */
    private static void addDeviceDuplicateIsCheckedSecond() {
        Ranges.refused(DUE, Fixture.BUSY, -3, "addDevice", 1, 5);
        Ranges.refused(DUE, Fixture.BUSY, -3, "addDevice", 15, 255);
        Ranges.refused(DUE, Fixture.FULL, -3, "addDevice", 0, 0);
        Ranges.refused(DUE, Fixture.FULL, -3, "addDevice", 1, 217);
        Ranges.accepted(DUE, Fixture.BUSY, "addDevice", 2, 6);
    }

    /** "FULL if there are 8 devices". */
    private static void addDeviceFull() {
        Ranges.refused(DUE, Fixture.FULL, -4, "addDevice", 0, 1);
        Ranges.refused(DUE, Fixture.FULL, -4, "addDevice", 15, 255);
        RomSearchBus x = Fixture.FULL.make();
        DUE.is("removeDevice(7)", x.removeDevice(7), 7);
        DUE.is("the eighth place is free", x.addDevice(15, 255), 7);
        DUE.is("and full again", x.addDevice(15, 254), -4);
    }

    /** "OUT_OF_RANGE if an argument is out of range": both are one error. */
    private static void addDeviceOutOfRangeInBoth() {
        Ranges.refused(DUE, Fixture.BUSY, -2, "addDevice", -1, 256);
        Ranges.refused(DUE, Fixture.BUSY, -2, "addDevice", LEAST, GREATEST);
    }

    // ---- Promise 3

    /** "device: number of a device" and "OUT_OF_RANGE if there is no such device". */
    private static void removeDeviceRange() {
        Ranges.device(DUE, "removeDevice", 0);
    }

    /** "The devices with higher numbers move down by one", with all that they have. */
    private static void removeDeviceMovesTheHigherOnes() {
        for (int gone = 0; gone < 8; gone++) {
            RomSearchBus x = new RomSearchBus();
            RomSearchBus fresh = new RomSearchBus();
            for (int serial = 0; serial < 8; serial++) {
                addMeasured(x, serial, serial);
                if (serial != gone) {
                    addMeasured(fresh, serial < gone ? serial : serial - 1, serial);
                }
            }
            DUE.is("removeDevice(" + gone + ")", x.removeDevice(gone), 7);
            DUE.is("digest() behind removeDevice(" + gone + ")", x.digest(), fresh.digest());
        }
    }

    private static void addMeasured(RomSearchBus bus, int device, int serial) {
        bus.addDevice(3, serial);
        bus.setReading(device, 100 + serial);
        bus.setAlarm(device, serial % 4, 50 * serial);
    }

    /** "Returns the number of devices that remain": down to 0, and none is left to remove. */
    private static void removeDeviceDownToNone() {
        RomSearchBus x = Fixture.FULL.make();
        for (int left = 7; left >= 0; left--) {
            DUE.is("removeDevice(0)", x.removeDevice(0), left);
        }
        DUE.is("removeDevice(0) on the empty bus", x.removeDevice(0), -2);
        DUE.is("the search state stays", x.currentRom(), 11665);
        DUE.is("next() on the empty bus", x.next(), -5);
        DUE.is("addDevice on the empty bus", x.addDevice(5, 5), 0);
    }

    /** "The search state stays as it is", also if the device that was found last is removed. */
    private static void removeDeviceLeavesTheSearch() {
        RomSearchBus x = Due.busOf(1, 5);
        x.next();
        x.removeDevice(0);
        DUE.is("currentRom()", x.currentRom(), 41041);
        DUE.is("isLastDevice()", x.isLastDevice(), 1);
        DUE.is("found(0)", x.found(0), 41041);
        DUE.is("next() behind the last device", x.next(), -8);
        DUE.is("next() on the empty bus", x.next(), -5);
    }

    // ---- Promise 4

    /** "OUT_OF_RANGE if there is no such device". */
    private static void setReadingDevice() {
        Ranges.device(DUE, "setReading", 0, 5);
    }

    /** "value: new reading, -999 to 999" and "OUT_OF_RANGE if .. value is out of range". */
    private static void setReadingValue() {
        Ranges.argument(DUE, "setReading", 1, -999, 999, 0, 0);
        RomSearchBus x = Due.busOf(3, 7);
        x.setAlarm(0, 3, 998);
        DUE.is("setReading(0, 999)", x.setReading(0, 999), 1);
        DUE.is("setReading(0, -999)", x.setReading(0, -999), 1);
    }

    /** "OUT_OF_RANGE if there is no such device or value is out of range": both are one error. */
    private static void setReadingWrongInBoth() {
        Ranges.refused(DUE, Fixture.BUSY, -2, "setReading", 4, 1000);
        Ranges.refused(DUE, Fixture.NEW, -2, "setReading", LEAST, GREATEST);
    }

    // ---- Promise 5

    /** "OUT_OF_RANGE if there is no such device". */
    private static void setAlarmDevice() {
        Ranges.device(DUE, "setAlarm", 0, 1, 5);
    }

    /** "rule: alarm rule, 0 to 3" and "OUT_OF_RANGE if .. an argument is out of range". */
    private static void setAlarmRule() {
        Ranges.argument(DUE, "setAlarm", 1, 0, 3, 0, 0, 5);
    }

    /** "limit: limit, -999 to 999" and "OUT_OF_RANGE if .. an argument is out of range". */
    private static void setAlarmLimit() {
        Ranges.argument(DUE, "setAlarm", 2, -999, 999, 0, 1, 0);
    }

    /** "OUT_OF_RANGE if there is no such device or an argument is out of range": all are one error. */
    private static void setAlarmWrongInAll() {
        Ranges.refused(DUE, Fixture.BUSY, -2, "setAlarm", -1, 4, 1000);
        Ranges.refused(DUE, Fixture.BUSY, -2, "setAlarm", LEAST, GREATEST, LEAST);
    }

    // ---- Promise 6

    /** "Returns the ROM code, 0 to 65535; OUT_OF_RANGE if there is no such device". */
    private static void romCodeRange() {
        Ranges.device(DUE, "romCode", 0);
    }

    // ---- Promise 7

    /** "bit k is 1 if device k is alarmed": none without devices, and none that is gone. */
    private static void alarmedDevicesOfNone() {
        RomSearchBus x = new RomSearchBus();
        DUE.is("alarmedDevices() without devices", x.alarmedDevices(), 0);
        x.addDevice(3, 7);
        x.setAlarm(0, 2, 1);
        DUE.is("alarmedDevices() of one", x.alarmedDevices(), 1);
        x.removeDevice(0);
        DUE.is("alarmedDevices() when it is gone", x.alarmedDevices(), 0);
    }

    /** "bit k is 1 if device k is alarmed": each device of eight alone, and all of them. */
    private static void alarmedDevicesOfEight() {
        RomSearchBus all = Fixture.FULL.make();
        for (int device = 0; device < 8; device++) {
            RomSearchBus x = Fixture.FULL.make();
            x.setAlarm(device, 2, 1);
            DUE.is("alarmedDevices(), device " + device, x.alarmedDevices(), 1 << device);
            all.setAlarm(device, 2, 1);
        }
        DUE.is("alarmedDevices(), all", all.alarmedDevices(), 255);
    }

    // ---- Promise 8

    /** "value: .. 0 to 4095" and "OUT_OF_RANGE if value is out of range". */
    private static void crcRange() {
        Ranges.argument(DUE, "crc", 0, 0, 4095, 0);
        for (int value = 0; value <= 4095; value++) {
            int crc = new RomSearchBus().crc(value);
            DUE.is("crc(" + value + ")", crc, crcByTheBook(value));
        }
    }
}
