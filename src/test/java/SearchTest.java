/** Promises 9 to 19: the search, its state and its noise. */
public final class SearchTest {
    private static final Due DUE = new Due();

    public static void main(String[] args) {
        setMode();
        resetSearch();
        nextWalksTheTree();
        nextWithoutDevices();
        nextInAlarmMode();
        nextIsUndoableWhateverItFinds();
        nextReadsAWrongCrc();
        skipFamily();
        skipFamilyAtTheEnd();
        targetFamily();
        setNoise();
        noiseWaitsForItsRead();
        noiseWithNoActiveDevice();
        noiseOnEachRead();
        countAhead();
        countAheadAgreesWithNext();
        askingChangesNothing();
        DUE.end();
    }

    private static void state(RomSearchBus x, String told, int rom, int last, int family, int flag) {
        DUE.is(told + ": currentRom()", x.currentRom(), rom);
        DUE.is(told + ": lastDiscrepancy()", x.lastDiscrepancy(), last);
        DUE.is(told + ": lastFamilyDiscrepancy()", x.lastFamilyDiscrepancy(), family);
        DUE.is(told + ": isLastDevice()", x.isLastDevice(), flag);
    }

    private static void setMode() {
        RomSearchBus x = Due.busOf(1, 5, 1, 6, 2, 5);
        x.next();
        DUE.is("setMode(0), the same mode", x.setMode(0), 0);
        state(x, "setMode resets", 0, -1, -1, 0);
        x.next();
        DUE.is("setMode(1)", x.setMode(1), 0);
        state(x, "setMode resets", 0, -1, -1, 0);
        DUE.is("setMode(1) again", x.setMode(1), 1);
        DUE.is("next() with nothing alarmed", x.next(), -6);
        x.targetFamily(5);
        for (int mode : new int[] {-1, 2, Integer.MIN_VALUE, Integer.MAX_VALUE}) {
            DUE.is("setMode(" + mode + ")", x.setMode(mode), -2);
        }
        state(x, "a refused setMode changes nothing", 5, 16, -1, 0);
        DUE.is("errorCount(-2)", x.errorCount(-2), 4);
        x.undo();
        x.undo();
        x.undo();
        DUE.is("undo() of setMode(1)", x.undo(), 1);
        state(x, "undo of setMode", 45138, 0, 0, 0);
        DUE.is("setMode(0) tells the mode restored", x.setMode(0), 0);
    }

    private static void resetSearch() {
        RomSearchBus x = Due.busOf(1, 5, 1, 6, 2, 5);
        DUE.is("resetSearch() of a new search", x.resetSearch(), 0);
        x.next();
        x.next();
        x.setNoise(3);
        DUE.is("resetSearch()", x.resetSearch(), 12385);
        state(x, "resetSearch", 0, -1, -1, 0);
        DUE.is("the slots stay", x.slotsUsed(), 96);
        DUE.is("the history stays", x.found(1), 12385);
        DUE.is("the noise stays", x.setNoise(-1), 3);
        DUE.is("the search begins anew", x.next(), 45138);
        x.undo();
        x.undo();
        DUE.is("undo() of resetSearch", x.undo(), 2);
        state(x, "undo of resetSearch", 12385, 4, 0, 0);
        x.setMode(1);
        x.resetSearch();
        DUE.is("the mode stays", x.setMode(0), 1);
    }

    private static void nextWalksTheTree() {
        RomSearchBus x = Due.busOf(0, 0, 1, 31, 2, 62, 0, 93, 1, 124, 2, 155, 0, 186, 1, 217);
        int[] codes = {0, 27552, 13776, 25570, 47538, 63425, 11665, 12785};
        for (int round = 0; round < 3; round++) {
            for (int code : codes) {
                DUE.is("next() in round " + round, x.next(), code);
                DUE.is("currentRom()", x.currentRom(), code);
            }
            DUE.is("isLastDevice()", x.isLastDevice(), 1);
            DUE.is("next() behind the last", x.next(), -8);
            state(x, "NO_MORE resets", 0, -1, -1, 0);
        }
        DUE.is("slotsUsed()", x.slotsUsed(), 3 * 8 * 48);
        DUE.is("errorCount(-8)", x.errorCount(-8), 3);
        RomSearchBus one = Due.busOf(9, 99);
        DUE.is("next() with one device", one.next(), one.romCode(0));
        state(one, "one device", one.romCode(0), -1, -1, 1);
        RomSearchBus deep = Due.busOf(0, 0, 0, 128);
        DUE.is("next(), bit 11 differs", deep.next(), 0);
        state(deep, "bit 11 differs", 0, 11, -1, 0);
        RomSearchBus family = Due.busOf(0, 0, 8, 0);
        family.next();
        state(family, "bit 3 differs", 0, 3, 3, 0);
        RomSearchBus serial = Due.busOf(0, 0, 0, 1);
        serial.next();
        state(serial, "bit 4 differs", 0, 4, -1, 0);
    }

    private static void nextWithoutDevices() {
        RomSearchBus x = new RomSearchBus();
        x.targetFamily(9);
        DUE.is("next() on an empty bus", x.next(), -5);
        state(x, "NO_PRESENCE resets", 0, -1, -1, 0);
        DUE.is("slotsUsed()", x.slotsUsed(), 0);
        DUE.is("errorCount(-5)", x.errorCount(-5), 1);
        x.skipFamily();
        DUE.is("the flag comes before the empty bus", x.next(), -8);
        DUE.is("errorCount(-8)", x.errorCount(-8), 1);
    }

    private static void nextInAlarmMode() {
        RomSearchBus x = Due.busOf(0, 0, 0, 1, 0, 2);
        x.setMode(1);
        DUE.is("next() with nothing alarmed", x.next(), -6);
        DUE.is("it used two slots", x.slotsUsed(), 2);
        DUE.is("errorCount(-6)", x.errorCount(-6), 1);
        x.setAlarm(1, 2, 1);
        x.setAlarm(2, 3, 0);
        DUE.is("next() finds the alarmed one", x.next(), x.romCode(1));
        DUE.is("it is the last", x.isLastDevice(), 1);
        DUE.is("slotsUsed()", x.slotsUsed(), 50);
        x.setReading(2, -1);
        x.setReading(1, 1);
        x.resetSearch();
        DUE.is("next() finds the other", x.next(), x.romCode(2));
        x.setMode(0);
        DUE.is("next() in mode 0 finds all", x.next(), 0);
    }

    private static void nextIsUndoableWhateverItFinds() {
        RomSearchBus x = Due.busOf(1, 5);
        x.next();
        DUE.is("next()", x.next(), -8);
        DUE.is("undo() of NO_MORE", x.undo(), 2);
        state(x, "undo of NO_MORE", 41041, -1, -1, 1);
        DUE.is("the counter stays", x.errorCount(-8), 1);
        DUE.is("undo() of next", x.undo(), 1);
        state(x, "undo of next", 0, -1, -1, 0);
        DUE.is("slotsUsed() behind undo", x.slotsUsed(), 0);
        DUE.is("found(0) behind undo", x.found(0), -2);
        x.setMode(1);
        x.setNoise(1);
        DUE.is("next(), none alarmed, noise on read 1", x.next(), -6);
        DUE.is("undo() of NO_DEVICE", x.undo(), 3);
        DUE.is("setNoise(-1) behind undo", x.setNoise(-1), 1);
        RomSearchBus empty = new RomSearchBus();
        empty.next();
        DUE.is("undo() of NO_PRESENCE", empty.undo(), 0);
    }

    /** Noise on the second read of a position can lead the pass past the only device. */
    private static void nextReadsAWrongCrc() {
        RomSearchBus x = Due.busOf(0, 0);
        x.setNoise(30);
        DUE.is("next() with both reads 1 at bit 15", x.next(), -6);
        DUE.is("slotsUsed(), no last write", x.slotsUsed(), 47);
        x.setNoise(31);
        DUE.is("next() with both reads 0 at bit 15", x.next(), 0);
        state(x, "a false discrepancy", 0, 15, -1, 0);
        x.setNoise(31);
        DUE.is("next() takes the 1 at bit 15", x.next(), -7);
        state(x, "CRC_ERROR resets", 0, -1, -1, 0);
        DUE.is("slotsUsed() of whole passes", x.slotsUsed(), 47 + 48 + 48);
        DUE.is("errorCount(-7)", x.errorCount(-7), 1);
        DUE.is("errorCount(-6)", x.errorCount(-6), 1);
        DUE.is("a wrong code is not remembered", x.found(1), -2);
        DUE.is("found(0)", x.found(0), 0);
        DUE.is("undo() of CRC_ERROR", x.undo(), 4);
        state(x, "undo of CRC_ERROR", 0, 15, -1, 0);
        DUE.is("setNoise(-1) behind undo", x.setNoise(-1), 31);
    }

    private static void skipFamily() {
        RomSearchBus x = Due.busOf(1, 1, 1, 2, 4, 9, 4, 10);
        DUE.is("next()", x.next() & 15, 4);
        DUE.is("skipFamily()", x.skipFamily(), 0);
        state(x, "skipFamily", x.found(0), 0, -1, 0);
        DUE.is("next() of the other family", x.next() & 15, 1);
        DUE.is("undo()", x.undo(), 5 - 1);
        DUE.is("undo() of skipFamily", x.undo(), 3);
        state(x, "undo of skipFamily", x.found(0), 4, 0, 0);
    }

    private static void skipFamilyAtTheEnd() {
        RomSearchBus x = Due.busOf(1, 1, 1, 2);
        x.next();
        DUE.is("skipFamily() in the last family", x.skipFamily(), -1);
        state(x, "skipFamily in the last family", 24609, -1, -1, 1);
        DUE.is("no error is counted", x.errorCount(-2), 0);
        DUE.is("next()", x.next(), -8);
        RomSearchBus y = Due.busOf(0, 0, 1, 0);
        y.next();
        y.next();
        state(y, "the last device", y.romCode(1), -1, 0, 1);
        DUE.is("skipFamily() behind the last device", y.skipFamily(), 0);
        state(y, "the flag stays set", y.romCode(1), 0, -1, 1);
        DUE.is("next() behind it", y.next(), -8);
    }

    private static void targetFamily() {
        RomSearchBus x = Due.busOf(1, 1, 1, 2, 4, 9, 15, 255);
        x.next();
        x.next();
        for (int family = 0; family <= 15; family++) {
            DUE.is("targetFamily(" + family + ")", x.targetFamily(family), family);
            state(x, "targetFamily(" + family + ")", family, 16, -1, 0);
        }
        DUE.is("next() of family 15", x.next(), x.romCode(3));
        DUE.is("targetFamily(1)", x.targetFamily(1), 1);
        DUE.is("next() of family 1", x.next(), 24609);
        DUE.is("next() of family 1", x.next(), 61457);
        x.skipFamily();
        DUE.is("isLastDevice() behind skipFamily", x.isLastDevice(), 0);
        for (int family : new int[] {-1, 16, Integer.MIN_VALUE, Integer.MAX_VALUE}) {
            DUE.is("targetFamily(" + family + ")", x.targetFamily(family), -2);
        }
        DUE.is("errorCount(-2)", x.errorCount(-2), 4);
        DUE.is("currentRom() behind refused ones", x.currentRom(), 61457);
        RomSearchBus y = Due.busOf(1, 5);
        y.next();
        DUE.is("targetFamily clears the flag", y.targetFamily(1), 1);
        DUE.is("next()", y.next(), 41041);
        y.undo();
        DUE.is("undo() of targetFamily", y.undo(), 2);
        state(y, "undo of targetFamily", 41041, -1, -1, 1);
    }

    private static void setNoise() {
        RomSearchBus x = new RomSearchBus();
        DUE.is("setNoise(0)", x.setNoise(0), -1);
        DUE.is("setNoise(31)", x.setNoise(31), 0);
        for (int read : new int[] {-2, 32, Integer.MIN_VALUE, Integer.MAX_VALUE}) {
            DUE.is("setNoise(" + read + ")", x.setNoise(read), -2);
        }
        DUE.is("errorCount(-2)", x.errorCount(-2), 4);
        DUE.is("setNoise(-1)", x.setNoise(-1), 31);
        DUE.is("setNoise(7)", x.setNoise(7), -1);
        x.undo();
        DUE.is("undo() of setNoise(-1)", x.undo(), 2);
        DUE.is("setNoise(5) behind undo", x.setNoise(5), 31);
    }

    private static void noiseWaitsForItsRead() {
        RomSearchBus x = Due.busOf(0, 0, 0, 1);
        x.setNoise(31);
        x.setMode(1);
        DUE.is("a pass that ends before the read", x.next(), -6);
        x.setMode(0);
        x.skipFamily();
        DUE.is("a pass without reads", x.next(), -8);
        DUE.is("the noise is kept", x.setNoise(31), 31);
        DUE.is("a pass with the read", x.next(), 0);
        DUE.is("a false discrepancy at bit 15", x.lastDiscrepancy(), 15);
        DUE.is("the noise is used up", x.setNoise(2), -1);
        x.resetSearch();
        DUE.is("a pass that ends by its noise", x.next(), -6);
        DUE.is("the noise is used up by it, too", x.setNoise(-1), -1);
        DUE.is("slots: 2 + 0 + 48 + 3 + 2", x.slotsUsed(), 55);
    }

    /** With no active device both reads are 1; the inverted one gives the direction. */
    private static void noiseWithNoActiveDevice() {
        RomSearchBus x = Due.busOf(1, 5);
        x.setMode(1);
        x.setNoise(1);
        DUE.is("next(), then no device at bit 1", x.next(), -6);
        DUE.is("slotsUsed()", x.slotsUsed(), 5);
        x.setMode(0);
        x.setNoise(0);
        DUE.is("next(): a 0 is read where the device has a 1", x.next(), -6);
        DUE.is("slotsUsed()", x.slotsUsed(), 10);
    }

    private static void noiseOnEachRead() {
        for (int read = 0; read < 32; read++) {
            RomSearchBus x = Due.busOf(1, 5, 6, 77, 6, 78, 9, 200);
            Model model = new Model();
            model.call("addDevice", 1, 5, 0);
            model.call("addDevice", 6, 77, 0);
            model.call("addDevice", 6, 78, 0);
            model.call("addDevice", 9, 200, 0);
            for (int pass = 0; pass < 8; pass++) {
                if (pass % 2 == 1) {
                    DUE.is("setNoise", x.setNoise(read), model.call("setNoise", read, 0, 0));
                }
                DUE.is("next() with noise " + read, x.next(), model.call("next", 0, 0, 0));
                DUE.is("digest() with noise " + read, x.digest(), model.call("digest", 0, 0, 0));
            }
        }
    }

    private static void countAhead() {
        RomSearchBus x = new RomSearchBus();
        DUE.is("countAhead() on an empty bus", x.countAhead(), 0);
        DUE.is("no error is counted", x.errorCount(-5), 0);
        x.addDevice(1, 5);
        x.addDevice(1, 6);
        x.addDevice(2, 5);
        long digest = x.digest();
        DUE.is("countAhead()", x.countAhead(), 3);
        DUE.is("nothing is changed", x.digest(), digest);
        x.next();
        DUE.is("countAhead() behind one", x.countAhead(), 2);
        x.next();
        x.next();
        DUE.is("countAhead() behind all", x.countAhead(), 0);
        x.next();
        x.setNoise(0);
        DUE.is("countAhead() with noise", x.countAhead(), passesOf(x));
        x.setMode(1);
        DUE.is("countAhead() with none alarmed", x.countAhead(), 0);
    }

    /** Counts by next() itself what countAhead() should tell, and resets the search. */
    private static int passesOf(RomSearchBus x) {
        int passes = 0;
        while (passes < 20 && x.next() >= 0) {
            passes++;
        }
        x.resetSearch();
        return passes;
    }

    private static void countAheadAgreesWithNext() {
        RomSearchBus x = Due.busOf(0, 0, 0, 1, 0, 2, 0, 3, 0, 4, 0, 5, 0, 6, 0, 7);
        DUE.is("countAhead() with 8 devices", x.countAhead(), 8);
        for (int read = 0; read < 32; read++) {
            x.setNoise(read);
            DUE.is("countAhead() with noise " + read, x.countAhead(), passesOf(x));
        }
    }

    private static void askingChangesNothing() {
        RomSearchBus x = Due.busOf(1, 5, 1, 6, 2, 5);
        x.next();
        long digest = x.digest();
        x.currentRom();
        x.lastDiscrepancy();
        x.lastFamilyDiscrepancy();
        x.isLastDevice();
        x.slotsUsed();
        x.found(0);
        x.familyShareBits(1);
        x.countAhead();
        x.alarmedDevices();
        x.romCode(0);
        x.crc(0);
        x.stopCause();
        x.errorCount(-2);
        x.deviceCount();
        DUE.is("digest() behind asking", x.digest(), digest);
    }
}
