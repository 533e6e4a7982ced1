import java.util.Arrays;

/**
 * The boundary cases of the search: the Description's "Search state", "One
 * search pass" and "History", and promises 9 to 22. Each method tests the
 * sentence above it.
 */
public final class SearchBoundaryTest {
    private static final Due DUE = new Due();
    private static final int[] LADDER = {0, 27552, 13776, 25570, 47538, 63425, 11665, 12785};

    public static void main(String[] args) {
        lastDiscrepancyRange();
        lastFamilyDiscrepancyRange();
        resetOfTheSearch();
        initiallyReset();
        passBehindTheLastDevice();
        passOnAnEmptyBus();
        flagComesBeforeTheEmptyBus();
        activeDevicesInMode0();
        activeDevicesInMode1();
        noActiveDevice();
        threeSlotsAtEachPosition();
        noDeviceAtEachPosition();
        falseDiscrepancyAtEachPosition();
        hiddenForkAtEachPosition();
        passWithAWrongCrc();
        directionBelowAtAndAboveTheLastDiscrepancy();
        staleLastFamilyDiscrepancy();
        lastDeviceFlag();
        orderOfTheTree();
        historyOfSix();
        historyOfSeven();
        historyKeepsWhatItRemembers();
        historyRemembersAnewWhatItForgot();
        historyOfCodeZero();
        historyWithoutWrongCrc();
        setModeRange();
        setModeResetsInTheSameMode();
        resetSearchOfAResetSearch();
        nextIsUndoableWithEachError();
        nextCountsEachError();
        skipFamilyWithoutFamilyDiscrepancy();
        skipFamilyLeavesASetFlag();
        skipFamilyTwice();
        targetFamilyRange();
        targetFamilyOnAnEmptyBus();
        targetFamilyThatIsNotThere();
        setNoiseRange();
        setNoisePrevious();
        noiseIsUsedOnce();
        noiseOutlivesPassesThatEndBefore();
        noiseIsUsedUpHoweverThePassEnds();
        countAheadOfNone();
        countAheadOfEight();
        countAheadOfNine();
        countAheadChangesNothing();
        slotsOfManyPasses();
        foundRange();
        familyShareRange();
        familyShareOfNone();
        familyShareOfAll();
        DUE.end();
    }

    private static void state(String told, RomSearchBus x, int rom, int last, int family, int flag) {
        DUE.is(told + ": currentRom()", x.currentRom(), rom);
        DUE.is(told + ": lastDiscrepancy()", x.lastDiscrepancy(), last);
        DUE.is(told + ": lastFamilyDiscrepancy()", x.lastFamilyDiscrepancy(), family);
        DUE.is(told + ": isLastDevice()", x.isLastDevice(), flag);
    }

    private static void isReset(String told, RomSearchBus x) {
        state(told, x, 0, -1, -1, 0);
    }

    private static void isRemembered(String told, RomSearchBus x, int... codes) {
        for (int index = 0; index < codes.length; index++) {
            DUE.is(told + ": found(" + index + ")", x.found(index), codes[index]);
        }
        DUE.is(told + ": found(" + codes.length + ")", x.found(codes.length), -2);
    }

    /** The read whose inverse makes both reads of a position 1: the other read is 1 already. */
    private static int readThatLosesAll(int rom, int position) {
        return 2 * position + (rom >> position & 1);
    }

    /** The read whose inverse makes both reads of a position 0, a false discrepancy. */
    private static int readThatForks(int rom, int position) {
        return 2 * position + 1 - (rom >> position & 1);
    }

    // ---- Description: Search state

    /** "the last discrepancy (-1 to 16)": both ends, and the lowest and highest that a pass can leave. */
    private static void lastDiscrepancyRange() {
        RomSearchBus x = Due.busOf(0, 0, 1, 0);
        DUE.is("lastDiscrepancy() when reset", x.lastDiscrepancy(), -1);
        x.next();
        DUE.is("lastDiscrepancy() at bit 0", x.lastDiscrepancy(), 0);
        x.targetFamily(0);
        DUE.is("lastDiscrepancy() behind targetFamily", x.lastDiscrepancy(), 16);
        x.setNoise(31);
        x.next();
        DUE.is("lastDiscrepancy() at bit 15", x.lastDiscrepancy(), 15);
        x.next();
        x.next();
        DUE.is("lastDiscrepancy() behind the last", x.lastDiscrepancy(), -1);
    }

    /** "the last family discrepancy (-1 to 3)" and "if the position is 3 or less". */
    private static void lastFamilyDiscrepancyRange() {
        int[][] rows = {{1, 0, 0, 0}, {2, 0, 1, 1}, {4, 0, 2, 2}, {8, 0, 3, 3}, {0, 1, 4, -1}, {0, 128, 11, -1}};
        for (int[] row : rows) {
            RomSearchBus x = Due.busOf(0, 0, row[0], row[1]);
            DUE.is("lastFamilyDiscrepancy() when reset", x.lastFamilyDiscrepancy(), -1);
            x.next();
            state("a fork at bit " + row[2], x, 0, row[2], row[3], 0);
        }
        RomSearchBus y = Due.busOf(0, 0, 8, 0, 0, 1);
        y.next();
        state("forks at bits 3 and 4", y, 0, 4, 3, 0);
    }

    /** "Resetting the search sets the ROM code to 0, both discrepancies to -1 and the .. flag to false; the mode stays". */
    private static void resetOfTheSearch() {
        RomSearchBus x = Fixture.BUSY.make();
        x.resetSearch();
        isReset("reset", x);
        DUE.is("the mode stays", x.setMode(0), 1);
        RomSearchBus y = Due.busOf(1, 5);
        y.next();
        DUE.is("the flag is set", y.isLastDevice(), 1);
        y.resetSearch();
        isReset("reset of a set flag", y);
        RomSearchBus z = Due.busOf(0, 0, 8, 0, 8, 1);
        passes(z, 2);
        state("before the reset", z, z.romCode(1), 4, 3, 0);
        z.resetSearch();
        isReset("reset of both discrepancies", z);
    }

    /** "The search is initially reset and the mode is 0". */
    private static void initiallyReset() {
        RomSearchBus x = new RomSearchBus();
        isReset("initially", x);
        DUE.is("the mode is 0", x.setMode(1), 0);
    }

    // ---- Description: One search pass

    /** "(1) If the last-device flag is set, reset the search and end with NO_MORE; no time slot is used". */
    private static void passBehindTheLastDevice() {
        for (Fixture fixture : Fixture.values()) {
            RomSearchBus x = fixture.make();
            RomSearchBus y = fixture.make();
            setTheFlag(x);
            setTheFlag(y);
            int slots = x.slotsUsed();
            DUE.is(fixture + ": next() behind the last", x.next(), -8);
            DUE.is(fixture + ": slotsUsed()", x.slotsUsed(), slots);
            isReset(fixture + ": NO_MORE", x);
            y.resetSearch();
            Twins.alikeButCounted(DUE, fixture + ": NO_MORE is as a reset", x, y, -8);
        }
    }

    /** A second skipFamily finds no family discrepancy, whatever the first one found. */
    private static void setTheFlag(RomSearchBus x) {
        x.skipFamily();
        x.skipFamily();
        DUE.is("isLastDevice() behind skipFamily twice", x.isLastDevice(), 1);
    }

    /** "(2) If the bus has no devices, reset the search and end with NO_PRESENCE; no time slot is used". */
    private static void passOnAnEmptyBus() {
        RomSearchBus x = emptiedBus();
        RomSearchBus y = emptiedBus();
        DUE.is("next() on an empty bus", x.next(), -5);
        DUE.is("slotsUsed()", x.slotsUsed(), 48);
        isReset("NO_PRESENCE", x);
        y.resetSearch();
        Twins.alikeButCounted(DUE, "NO_PRESENCE is as a reset", x, y, -5);
        RomSearchBus alarm = new RomSearchBus();
        alarm.setMode(1);
        DUE.is("next() on an empty bus in mode 1", alarm.next(), -5);
        DUE.is("slotsUsed() in mode 1", alarm.slotsUsed(), 0);
    }

    private static RomSearchBus emptiedBus() {
        RomSearchBus bus = Due.busOf(1, 5, 2, 5);
        bus.next();
        bus.setNoise(0);
        bus.removeDevice(0);
        bus.removeDevice(0);
        DUE.is("lastDiscrepancy() before NO_PRESENCE", bus.lastDiscrepancy(), 0);
        return bus;
    }

    /** Step (1) comes before step (2). */
    private static void flagComesBeforeTheEmptyBus() {
        RomSearchBus x = new RomSearchBus();
        x.skipFamily();
        DUE.is("next() with the flag set", x.next(), -8);
        DUE.is("next() with the flag cleared", x.next(), -5);
        DUE.is("errorCount(-8)", x.errorCount(-8), 1);
        DUE.is("errorCount(-5)", x.errorCount(-5), 1);
    }

    /** "(3) The active devices are all devices in mode 0", alarmed or not. */
    private static void activeDevicesInMode0() {
        RomSearchBus x = Due.busOf(0, 0, 0, 1, 0, 2);
        x.setAlarm(1, 2, 1);
        DUE.is("countAhead() in mode 0", x.countAhead(), 3);
        DUE.is("countAhead() in mode 0 with eight", ladder(8).countAhead(), 8);
    }

    /** "(3) .. and the alarmed devices in mode 1": each number of them from none to all. */
    private static void activeDevicesInMode1() {
        RomSearchBus x = Fixture.FULL.make();
        x.setMode(1);
        DUE.is("countAhead() with none alarmed", x.countAhead(), 0);
        for (int device = 0; device < 8; device++) {
            x.setAlarm(device, 2, 1);
            DUE.is("countAhead() with devices to " + device, x.countAhead(), device + 1);
        }
        x.setReading(0, 1);
        DUE.is("countAhead() with one less", x.countAhead(), 7);
    }

    /** "both are 1 if there is no active device .. reset the search and end with NO_DEVICE; the write slot .. is not used". */
    private static void noActiveDevice() {
        RomSearchBus x = Due.busOf(1, 5, 2, 5);
        x.setMode(1);
        x.targetFamily(9);
        DUE.is("next() with no active device", x.next(), -6);
        DUE.is("slotsUsed(): two reads", x.slotsUsed(), 2);
        isReset("NO_DEVICE", x);
        DUE.is("found(0)", x.found(0), -2);
        DUE.is("the mode stays", x.setMode(0), 1);
        for (int read : new int[] {0, 1}) {
            RomSearchBus y = Due.busOf(1, 5);
            y.setMode(1);
            y.setNoise(read);
            DUE.is("next() with one of the reads inverted", y.next(), -6);
            DUE.is("slotsUsed(): lost at bit 1", y.slotsUsed(), 5);
        }
    }

    /** "For each bit position from 0 to 15: the master uses three time slots". */
    private static void threeSlotsAtEachPosition() {
        for (int devices = 1; devices <= 8; devices++) {
            RomSearchBus x = new RomSearchBus();
            for (int serial = 0; serial < devices; serial++) {
                x.addDevice(serial, 31 * serial);
            }
            x.next();
            DUE.is("slotsUsed() of a pass over " + devices, x.slotsUsed(), 48);
        }
    }

    /** "If idBit and complementBit are both 1, .. NO_DEVICE; the write slot of this position is not used": at each position. */
    private static void noDeviceAtEachPosition() {
        for (int position = 0; position <= 15; position++) {
            RomSearchBus x = Due.busOf(1, 5);
            x.setNoise(readThatLosesAll(41041, position));
            DUE.is("next(), lost at bit " + position, x.next(), -6);
            DUE.is("slotsUsed(), lost at bit " + position, x.slotsUsed(), 3 * position + 2);
            isReset("lost at bit " + position, x);
            DUE.is("the noise is used up", x.setNoise(-1), -1);
            DUE.is("found(0)", x.found(0), -2);
        }
    }

    /** "If both are 0, there is a discrepancy": a false one at each position, where the device has a 0 and where it has a 1. */
    private static void falseDiscrepancyAtEachPosition() {
        for (int position = 0; position <= 15; position++) {
            RomSearchBus x = Due.busOf(1, 5);
            x.setNoise(readThatForks(41041, position));
            int answer = x.next();
            String told = "a false fork at bit " + position;
            if ((41041 >> position & 1) == 0) {
                DUE.is(told + ": next()", answer, 41041);
                state(told, x, 41041, position, position <= 3 ? position : -1, 0);
                DUE.is(told + ": slotsUsed()", x.slotsUsed(), 48);
            } else {
                DUE.is(told + ": next()", answer, position == 15 ? -7 : -6);
                isReset(told, x);
                DUE.is(told + ": slotsUsed()", x.slotsUsed(), position == 15 ? 48 : 3 * position + 5);
            }
            DUE.is(told + ": the noise is used up", x.setNoise(-1), -1);
        }
    }

    /** "active devices whose bit .. is not the direction become inactive": also where noise makes the reads of a fork differ. */
    private static void hiddenForkAtEachPosition() {
        for (int position = 0; position <= 11; position++) {
            int low = 1 << position;
            for (int direction = 0; direction <= 1; direction++) {
                RomSearchBus x = Due.busOf(0, 0, low & 15, low >> 4);
                x.setNoise(2 * position + 1 - direction);
                String told = "direction " + direction + " at the fork at bit " + position;
                int rom = x.romCode(direction);
                DUE.is(told + ": next()", x.next(), rom);
                state(told, x, rom, -1, -1, 1);
                DUE.is(told + ": slotsUsed()", x.slotsUsed(), 48);
            }
        }
    }

    /** "(6) If the CRC .. is not the CRC of its bits 0 to 11, reset the search and end with CRC_ERROR". */
    private static void passWithAWrongCrc() {
        RomSearchBus x = Due.busOf(1, 5);
        x.setNoise(30);
        DUE.is("next() with a wrong CRC", x.next(), -7);
        isReset("CRC_ERROR", x);
        DUE.is("slotsUsed() of a whole pass", x.slotsUsed(), 48);
        DUE.is("found(0)", x.found(0), -2);
        DUE.is("the noise is used up", x.setNoise(-1), -1);
        DUE.is("errorCount(-7)", x.errorCount(-7), 1);
        DUE.is("next() behind it", x.next(), 41041);
    }

    /** "if the position is less than the last discrepancy, .. the bit of the current ROM code ..; otherwise .. 1 if .. equals". */
    private static void directionBelowAtAndAboveTheLastDiscrepancy() {
        RomSearchBus x = Due.busOf(0, 0, 1, 0, 0, 1, 1, 1, 0, 2, 1, 2, 0, 3, 1, 3);
        int[] due = {0, 2, 1, 3, 0, 2, 1, 3};
        int[] fork = {5, 4, 5, 0, 5, 4, 5, -1};
        for (int pass = 0; pass < 8; pass++) {
            int code = x.next();
            DUE.is("family of pass " + pass, code & 15, pass / 4);
            DUE.is("serial number of pass " + pass, code >> 4 & 255, due[pass]);
            DUE.is("lastDiscrepancy() of pass " + pass, x.lastDiscrepancy(), fork[pass]);
        }
    }

    /** "If the direction is then 0, .. the last family discrepancy becomes the position": no pass sets it back to -1. */
    private static void staleLastFamilyDiscrepancy() {
        RomSearchBus x = Due.busOf(0, 0, 8, 0);
        x.next();
        DUE.is("lastFamilyDiscrepancy() of the first", x.lastFamilyDiscrepancy(), 3);
        x.next();
        state("the direction at bit 3 was 1", x, x.romCode(1), -1, 3, 1);
    }

    /** "(5) .. the last-device flag becomes (lastZero == -1)": a discrepancy at bit 0 does not set it. */
    private static void lastDeviceFlag() {
        RomSearchBus x = Due.busOf(0, 0, 1, 0);
        x.next();
        DUE.is("isLastDevice() with lastZero 0", x.isLastDevice(), 0);
        x.next();
        DUE.is("isLastDevice() with lastZero -1", x.isLastDevice(), 1);
        x.resetSearch();
        x.setNoise(1);
        x.next();
        DUE.is("isLastDevice() where noise hides the fork", x.isLastDevice(), 1);
    }

    /** The passes tell the codes with bit 0 as the first that decides: the order of the codes read backwards. */
    private static void orderOfTheTree() {
        for (int step = 1; step <= 97; step += 8) {
            RomSearchBus x = new RomSearchBus();
            Integer[] codes = new Integer[8];
            for (int device = 0; device < 8; device++) {
                x.addDevice(device * step % 16, device * 31 * step % 256);
                codes[device] = x.romCode(device);
            }
            Arrays.sort(codes, (a, b) -> Integer.compareUnsigned(Integer.reverse(a), Integer.reverse(b)));
            for (int code : codes) {
                DUE.is("next() with step " + step, x.next(), code);
            }
            DUE.is("next() behind the last", x.next(), -8);
        }
    }

    // ---- Description: History

    private static RomSearchBus ladder(int devices) {
        RomSearchBus bus = new RomSearchBus();
        for (int device = 0; device < devices; device++) {
            int low = LADDER[device] & 4095;
            bus.addDevice(low & 15, low >> 4);
        }
        return bus;
    }

    private static void passes(RomSearchBus bus, int count) {
        for (int pass = 0; pass < count; pass++) {
            bus.next();
        }
    }

    /** "The bus remembers the last 6 different ROM codes": from none to six, none is forgotten. */
    private static void historyOfSix() {
        RomSearchBus x = ladder(8);
        isRemembered("none", x);
        for (int count = 1; count <= 6; count++) {
            x.next();
            isRemembered("of " + count, x, Arrays.copyOf(LADDER, count));
        }
    }

    /** "If a seventh code would be remembered, the oldest one is forgotten first". */
    private static void historyOfSeven() {
        RomSearchBus x = ladder(8);
        passes(x, 7);
        isRemembered("of 7", x, Arrays.copyOfRange(LADDER, 1, 7));
        x.next();
        isRemembered("of 8", x, Arrays.copyOfRange(LADDER, 2, 8));
    }

    /** "Finding a code that is remembered does not change the order": the oldest, the newest, and when it is full. */
    private static void historyKeepsWhatItRemembers() {
        RomSearchBus x = ladder(6);
        passes(x, 6);
        for (int again = 0; again < 6; again++) {
            x.next();
            isRemembered("found again, " + again, x, Arrays.copyOf(LADDER, 6));
        }
        RomSearchBus y = ladder(2);
        passes(y, 2);
        y.resetSearch();
        y.next();
        isRemembered("the oldest again", y, LADDER[0], LADDER[1]);
        y.next();
        isRemembered("the newest again", y, LADDER[0], LADDER[1]);
    }

    /** "in the order in which each of them was found first since it was last forgotten". */
    private static void historyRemembersAnewWhatItForgot() {
        RomSearchBus x = ladder(7);
        passes(x, 7);
        x.next();
        DUE.is("next() of the one forgotten", x.next(), LADDER[0]);
        isRemembered("the one forgotten is the newest", x,
                LADDER[2], LADDER[3], LADDER[4], LADDER[5], LADDER[6], LADDER[0]);
        DUE.is("next() of the one forgotten for it", x.next(), LADDER[1]);
        isRemembered("and the next one", x,
                LADDER[3], LADDER[4], LADDER[5], LADDER[6], LADDER[0], LADDER[1]);
        DUE.is("resetSearch()", x.resetSearch(), LADDER[1]);
        DUE.is("next() of one remembered", x.next(), LADDER[0]);
        isRemembered("one remembered again", x,
                LADDER[3], LADDER[4], LADDER[5], LADDER[6], LADDER[0], LADDER[1]);
    }

    /** The least ROM code, 0, is a code as others are: an empty history does not hold it. */
    private static void historyOfCodeZero() {
        RomSearchBus x = Due.busOf(0, 0);
        isRemembered("before code 0", x);
        x.next();
        isRemembered("code 0", x, 0);
        x.addDevice(1, 31);
        x.resetSearch();
        passes(x, 2);
        isRemembered("code 0 and another", x, 0, x.romCode(1));
    }

    /** "ROM codes that passes have found": what a pass that ends with an error has read is none of them. */
    private static void historyWithoutWrongCrc() {
        RomSearchBus x = ladder(6);
        passes(x, 6);
        int before = x.found(0);
        x.addDevice(1, 5);
        x.resetSearch();
        x.setMode(1);
        x.setAlarm(6, 2, 1);
        x.setNoise(30);
        DUE.is("next() with a wrong CRC", x.next(), -7);
        DUE.is("found(0) behind CRC_ERROR", x.found(0), before);
        x.setNoise(readThatLosesAll(41041, 15));
        DUE.is("next(), lost at bit 15", x.next(), -6);
        isRemembered("behind CRC_ERROR and NO_DEVICE", x, Arrays.copyOf(LADDER, 6));
    }

    // ---- Promises 9 and 10

    /** "mode: 0 .. 1" and "OUT_OF_RANGE if mode is neither 0 nor 1". */
    private static void setModeRange() {
        Ranges.argument(DUE, "setMode", 0, 0, 1, 0);
    }

    /** "Sets the search mode and resets the search", also if the mode is the same. */
    private static void setModeResetsInTheSameMode() {
        for (int mode = 0; mode <= 1; mode++) {
            RomSearchBus x = Fixture.BUSY.make();
            x.targetFamily(9);
            DUE.is("setMode(" + mode + ") tells the previous mode", x.setMode(mode), 1);
            isReset("setMode(" + mode + ")", x);
            DUE.is("setMode(0) tells the mode set", x.setMode(0), mode);
        }
    }

    /** "Returns the ROM code that was current before the reset": 0 if it was reset, up to 16 bits if not. */
    private static void resetSearchOfAResetSearch() {
        RomSearchBus x = Due.busOf(1, 5);
        DUE.is("resetSearch() of a reset search", x.resetSearch(), 0);
        x.next();
        DUE.is("resetSearch()", x.resetSearch(), 41041);
        DUE.is("resetSearch() again", x.resetSearch(), 0);
        x.targetFamily(15);
        DUE.is("resetSearch() behind targetFamily", x.resetSearch(), 15);
    }

    // ---- Promise 11

    private static RomSearchBus readyToFailWith(int code) {
        RomSearchBus x = new RomSearchBus();
        switch (code) {
            case -5:
                x.targetFamily(9);
                break;
            case -6:
                Due.run(x, "d1 5;n;r;");
                x.setNoise(readThatLosesAll(41041, 8));
                break;
            case -7:
                Due.run(x, "d1 5;n;r;");
                x.setNoise(30);
                break;
            default:
                Due.run(x, "d1 5;n;");
                x.setNoise(4);
                break;
        }
        return x;
    }

    /** "Undoable, also if the pass does not find a ROM code". */
    private static void nextIsUndoableWithEachError() {
        for (int code = -8; code <= -5; code++) {
            RomSearchBus x = readyToFailWith(code);
            DUE.is("next()", x.next(), code);
            DUE.holds("undo() of " + code, x.undo() >= 0);
            Twins.alikeButCounted(DUE, "undo of " + code, x, readyToFailWith(code), code);
        }
    }

    /** "NO_MORE, NO_PRESENCE, NO_DEVICE or CRC_ERROR, which are counted as errors": each by its own counter, once. */
    private static void nextCountsEachError() {
        for (int code = -8; code <= -5; code++) {
            RomSearchBus x = readyToFailWith(code);
            DUE.is("errorCount(" + code + ") before", x.errorCount(code), 0);
            DUE.is("next()", x.next(), code);
            for (int each = -9; each <= -2; each++) {
                DUE.is("errorCount(" + each + ") behind " + code, x.errorCount(each), each == code ? 1 : 0);
            }
        }
        RomSearchBus found = Due.busOf(1, 5);
        found.next();
        for (int each = -9; each <= -2; each++) {
            DUE.is("errorCount(" + each + ") behind a code found", found.errorCount(each), 0);
        }
    }

    // ---- Promise 12

    /** "if the last discrepancy is now -1, the last-device flag is set". */
    private static void skipFamilyWithoutFamilyDiscrepancy() {
        RomSearchBus x = new RomSearchBus();
        DUE.is("skipFamily() of a reset search", x.skipFamily(), -1);
        state("skipFamily of a reset search", x, 0, -1, -1, 1);
        for (int code = -9; code <= -2; code++) {
            DUE.is("-1 is no error: errorCount(" + code + ")", x.errorCount(code), 0);
        }
        RomSearchBus y = Due.busOf(0, 0, 0, 1);
        y.next();
        DUE.is("skipFamily() with a fork at bit 4 only", y.skipFamily(), -1);
        state("a fork at bit 4 only", y, 0, -1, -1, 1);
        RomSearchBus z = Due.busOf(1, 5);
        z.targetFamily(7);
        DUE.is("skipFamily() behind targetFamily", z.skipFamily(), -1);
        state("skipFamily behind targetFamily", z, 7, -1, -1, 1);
    }

    /** "otherwise the flag stays as it is": a flag that is set stays set, one that is not stays so. */
    private static void skipFamilyLeavesASetFlag() {
        RomSearchBus x = Due.busOf(0, 0, 8, 0);
        x.next();
        DUE.is("skipFamily() with a fork at bit 3", x.skipFamily(), 3);
        state("the flag stays off", x, 0, 3, -1, 0);
        RomSearchBus y = Due.busOf(0, 0, 1, 0);
        passes(y, 2);
        DUE.is("skipFamily() behind the last", y.skipFamily(), 0);
        state("the flag stays on", y, y.romCode(1), 0, -1, 1);
    }

    /** "the last family discrepancy becomes -1": a second call finds nothing to skip. */
    private static void skipFamilyTwice() {
        RomSearchBus x = Due.busOf(0, 0, 8, 0);
        x.next();
        DUE.is("skipFamily()", x.skipFamily(), 3);
        DUE.is("skipFamily() again", x.skipFamily(), -1);
        state("skipFamily twice", x, 0, -1, -1, 1);
        DUE.is("next()", x.next(), -8);
    }

    // ---- Promise 13

    /** "family: family, 0 to 15" and "OUT_OF_RANGE if family is out of range". */
    private static void targetFamilyRange() {
        Ranges.argument(DUE, "targetFamily", 0, 0, 15, 0);
        for (int family : new int[] {0, 15}) {
            RomSearchBus x = Fixture.BUSY.make();
            DUE.is("targetFamily(" + family + ")", x.targetFamily(family), family);
            state("targetFamily(" + family + ")", x, family, 16, -1, 0);
        }
    }

    /** "the search is reset, then ..": it needs no device, and the next pass still finds the bus empty. */
    private static void targetFamilyOnAnEmptyBus() {
        RomSearchBus x = new RomSearchBus();
        x.skipFamily();
        DUE.is("targetFamily(15)", x.targetFamily(15), 15);
        state("the flag is cleared", x, 15, 16, -1, 0);
        DUE.is("next()", x.next(), -5);
        isReset("behind NO_PRESENCE", x);
    }

    /** A family that no device has: the pass takes what the devices answer where they do not differ. */
    private static void targetFamilyThatIsNotThere() {
        RomSearchBus x = Due.busOf(1, 5);
        x.targetFamily(14);
        DUE.is("next()", x.next(), 41041);
        state("the only device", x, 41041, -1, -1, 1);
    }

    // ---- Promise 14

    /** "read: index of the read, 0 to 31, or -1 for no noise" and "OUT_OF_RANGE if read is out of range". */
    private static void setNoiseRange() {
        Ranges.argument(DUE, "setNoise", 0, -1, 31, 0);
        RomSearchBus x = Due.busOf(1, 5);
        x.setNoise(0);
        DUE.is("read 0: a 1 is read as 0", x.next(), -6);
        DUE.is("read 0: slotsUsed()", x.slotsUsed(), 5);
        x.setNoise(31);
        DUE.is("read 31: both are 1", x.next(), -6);
        DUE.is("read 31: slotsUsed()", x.slotsUsed(), 5 + 47);
        x.setNoise(30);
        x.setNoise(-1);
        DUE.is("-1: no noise", x.next(), 41041);
    }

    /** "Returns the previous setting; -1 if there was no noise". */
    private static void setNoisePrevious() {
        RomSearchBus x = new RomSearchBus();
        DUE.is("setNoise(-1)", x.setNoise(-1), -1);
        for (int read = 0; read <= 31; read++) {
            DUE.is("setNoise(" + read + ")", x.setNoise(read), read - 1);
        }
        DUE.is("setNoise(-1)", x.setNoise(-1), 31);
        DUE.is("setNoise(-1)", x.setNoise(-1), -1);
        for (int code = -9; code <= -2; code++) {
            DUE.is("-1 is no error: errorCount(" + code + ")", x.errorCount(code), 0);
        }
    }

    /** "is inverted, once; after that there is no noise": on each of the 32 reads. */
    private static void noiseIsUsedOnce() {
        for (int read = 0; read <= 31; read++) {
            RomSearchBus x = Due.busOf(1, 5);
            x.setNoise(read);
            x.next();
            DUE.is("setNoise(-1) behind read " + read, x.setNoise(-1), -1);
            x.resetSearch();
            DUE.is("next() without noise", x.next(), 41041);
        }
    }

    /** "A pass that ends before that read keeps the noise setting for the pass after it": NO_MORE, NO_PRESENCE, NO_DEVICE. */
    private static void noiseOutlivesPassesThatEndBefore() {
        RomSearchBus x = new RomSearchBus();
        x.setNoise(2);
        DUE.is("NO_PRESENCE", x.next(), -5);
        x.skipFamily();
        DUE.is("NO_MORE", x.next(), -8);
        x.addDevice(1, 5);
        x.setMode(1);
        DUE.is("NO_DEVICE, behind reads 0 and 1", x.next(), -6);
        DUE.is("slotsUsed()", x.slotsUsed(), 2);
        x.setMode(0);
        DUE.is("the noise is kept: lost at bit 1", x.next(), -6);
        DUE.is("slotsUsed()", x.slotsUsed(), 2 + 5);
        DUE.is("the noise is used up", x.setNoise(-1), -1);
    }

    /** "a pass that performs it has used it up, however the pass ends": by NO_DEVICE at the read itself, too. */
    private static void noiseIsUsedUpHoweverThePassEnds() {
        RomSearchBus alarm = Due.busOf(1, 5);
        alarm.setMode(1);
        alarm.setNoise(1);
        DUE.is("NO_DEVICE one bit later", alarm.next(), -6);
        DUE.is("used up", alarm.setNoise(-1), -1);
        RomSearchBus crc = Due.busOf(1, 5);
        crc.setNoise(30);
        DUE.is("CRC_ERROR", crc.next(), -7);
        DUE.is("used up", crc.setNoise(-1), -1);
        RomSearchBus lost = Due.busOf(1, 5);
        lost.setNoise(1);
        DUE.is("NO_DEVICE at the read", lost.next(), -6);
        DUE.is("used up", lost.setNoise(-1), -1);
        RomSearchBus found = Due.busOf(0, 0, 1, 0);
        found.setNoise(1);
        DUE.is("a code found", found.next(), 0);
        DUE.is("used up", found.setNoise(-1), -1);
    }

    // ---- Promise 15

    /** "how many consecutive passes .. find a ROM code before a pass does not": 0 where the first pass fails. */
    private static void countAheadOfNone() {
        for (int code = -8; code <= -5; code++) {
            RomSearchBus x = readyToFailWith(code);
            DUE.is("countAhead() before " + code, x.countAhead(), 0);
            Twins.alike(DUE, "countAhead() before " + code, x, readyToFailWith(code));
        }
    }

    /** The passes ahead from a reset search are as many as the devices, and one less behind each pass. */
    private static void countAheadOfEight() {
        for (int devices = 0; devices <= 8; devices++) {
            RomSearchBus x = ladder(devices);
            for (int ahead = devices; ahead > 0; ahead--) {
                DUE.is("countAhead() of " + devices, x.countAhead(), ahead);
                x.next();
            }
            DUE.is("countAhead() at the end of " + devices, x.countAhead(), 0);
        }
    }

    /** More passes than devices: a false fork at bit 15 leads the search to the same code twice. */
    private static void countAheadOfNine() {
        RomSearchBus x = ladder(8);
        x.setNoise(31);
        DUE.is("countAhead() with a false fork", x.countAhead(), 9);
        DUE.is("next()", x.next(), LADDER[0]);
        DUE.is("countAhead()", x.countAhead(), 8);
        DUE.is("next(), the same code", x.next(), LADDER[0]);
        DUE.is("countAhead()", x.countAhead(), 7);
    }

    /** "Nothing is changed, and no errors are counted": no slot, no noise, no history, no saved state. */
    private static void countAheadChangesNothing() {
        for (Fixture fixture : Fixture.values()) {
            RomSearchBus x = fixture.make();
            x.countAhead();
            x.countAhead();
            Twins.alike(DUE, fixture + ": countAhead()", x, fixture.make());
        }
    }

    // ---- Promises 16 to 20

    /** "the number of time slots that all passes have used": all the calls of an object, with the longest text. */
    private static void slotsOfManyPasses() {
        RomSearchBus x = new RomSearchBus();
        Due.run(x, "d0 0;d1 0;");
        Due.write(x, "n;".repeat(60));
        for (int calls = 0; calls < 300; calls++) {
            x.execute();
        }
        DUE.is("slotsUsed() of 18000 passes, a third without", x.slotsUsed(), 12000 * 48);
    }

    // ---- Promise 21

    /** "index: .. 0 for the oldest code" and "OUT_OF_RANGE if the history has no such index": for each length. */
    private static void foundRange() {
        for (int length = 0; length <= 6; length++) {
            RomSearchBus x = ladder(8);
            passes(x, length);
            if (length > 0) {
                DUE.is("found(0) of " + length, x.found(0), LADDER[0]);
                DUE.is("the newest of " + length, x.found(length - 1), LADDER[length - 1]);
            }
            DUE.is("errorCount(-2)", x.errorCount(-2), 0);
            for (int index : new int[] {-1, length, Integer.MIN_VALUE, Integer.MAX_VALUE}) {
                RomSearchBus y = ladder(8);
                passes(y, length);
                RomSearchBus twin = ladder(8);
                passes(twin, length);
                DUE.is("found(" + index + ") of " + length, y.found(index), -2);
                Twins.alikeButCounted(DUE, "found(" + index + ") of " + length, y, twin, -2);
            }
        }
        for (int index : new int[] {-1, 6, Integer.MIN_VALUE, Integer.MAX_VALUE}) {
            Ranges.refused(DUE, Fixture.FULL, -2, "found", index);
        }
    }

    // ---- Promise 22

    /** "family: family, 0 to 15" and "OUT_OF_RANGE if family is out of range", without devices, too. */
    private static void familyShareRange() {
        Ranges.argument(DUE, "familyShareBits", 0, 0, 15, 0);
    }

    /** "the bits of 0.0f if there are no devices", and of a family that has none. */
    private static void familyShareOfNone() {
        RomSearchBus x = new RomSearchBus();
        for (int family = 0; family <= 15; family++) {
            DUE.is("familyShareBits(" + family + ") without devices", x.familyShareBits(family), 0);
        }
        x.addDevice(3, 0);
        DUE.is("familyShareBits(2) of none", x.familyShareBits(2), 0);
        x.removeDevice(0);
        DUE.is("familyShareBits(3) when it is gone", x.familyShareBits(3), 0);
    }

    /** "the number of devices of the family .. divided by the number of devices": from one in eight to all. */
    private static void familyShareOfAll() {
        int[] inEight = {0x3E000000, 0x3E800000, 0x3EC00000, 0x3F000000,
            0x3F200000, 0x3F400000, 0x3F600000, 0x3F800000};
        for (int members = 1; members <= 8; members++) {
            RomSearchBus x = new RomSearchBus();
            for (int device = 0; device < 8; device++) {
                x.addDevice(device < members ? 15 : 0, device);
            }
            DUE.is("share of " + members + " in 8", x.familyShareBits(15), inEight[members - 1]);
        }
        DUE.is("share of 1 in 1", Due.busOf(0, 0).familyShareBits(0), 0x3F800000);
        DUE.is("share of 1 in 3, rounded up", Due.busOf(0, 0, 1, 0, 2, 0).familyShareBits(0), 0x3EAAAAAB);
        DUE.is("share of 1 in 7, rounded up",
                Due.busOf(0, 0, 1, 0, 2, 0, 3, 0, 4, 0, 5, 0, 6, 0).familyShareBits(0), 0x3E124925);
    }
}
