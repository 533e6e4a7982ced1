import java.math.BigInteger;

/**
 * The boundary cases of the state: the Description's "Undo" and "Errors",
 * promises 27 to 30, and the 512 calls of an object. Each method tests the
 * sentence above it.
 */
public final class StateBoundaryTest {
    private static final Due DUE = new Due();
    private static final Object[][] UNDOABLE = {
        {"addDevice", 9, 9, 0}, {"removeDevice", 0, 0, 0}, {"setReading", 0, 77, 0}, {"setAlarm", 0, 1, -77},
        {"setMode", 1, 0, 0}, {"resetSearch", 0, 0, 0}, {"next", 0, 0, 0}, {"skipFamily", 0, 0, 0},
        {"targetFamily", 9, 0, 0}, {"setNoise", 9, 0, 0}};
    private static final Object[][] ASKING = {
        {"romCode", 0, 0, 0}, {"alarmedDevices", 0, 0, 0}, {"crc", 4095, 0, 0}, {"countAhead", 0, 0, 0},
        {"currentRom", 0, 0, 0}, {"lastDiscrepancy", 0, 0, 0}, {"lastFamilyDiscrepancy", 0, 0, 0},
        {"isLastDevice", 0, 0, 0}, {"slotsUsed", 0, 0, 0}, {"found", 0, 0, 0}, {"familyShareBits", 1, 0, 0},
        {"stopCause", 0, 0, 0}, {"errorCount", -2, 0, 0}, {"deviceCount", 0, 0, 0}, {"digest", 0, 0, 0}};

    public static void main(String[] args) {
        fixturesAreWhatTheySay();
        undoOfEachUndoableCall();
        undoOfCallsThatChangeNothing();
        fiveStatesAtMost();
        oldestStateIsDroppedFirst();
        savedStateContainsTheDevices();
        savedStateContainsTheSearchState();
        savedStateContainsNoiseSlotsAndHistory();
        savedStateContainsNoErrorCounters();
        savedStateContainsNoText();
        savedStateContainsNoStopCause();
        askingSavesAndChangesNothing();
        errorChangesItsCounterAlone();
        undoReturnsWhatRemains();
        undoWithoutSavedState();
        undoRemovesTheStateItRestores();
        undoIsNotUndoable();
        errorCountRange();
        errorCountOfEachCode();
        errorCountOfItsOwnErrors();
        deviceCountRange();
        digestOverflows();
        digestOfNegativeValues();
        digestOfTheFlagAndTheMode();
        digestWithAllPartsFull();
        digestTellsTheNumberOfStatesAndBytes();
        the512thCall();
        DUE.end();
    }

    private static long call(RomSearchBus bus, Object[] row) {
        return Calls.answer(bus, (String) row[0], (Integer) row[1], (Integer) row[2], (Integer) row[3]);
    }

    /** The refusals of all the boundary tests are seen only if the fixtures have something to lose. */
    private static void fixturesAreWhatTheySay() {
        RomSearchBus busy = Fixture.BUSY.make();
        DUE.is("BUSY: deviceCount()", busy.deviceCount(), 4);
        DUE.is("BUSY: alarmedDevices()", busy.alarmedDevices(), 7);
        DUE.is("BUSY: currentRom()", busy.currentRom(), 12385);
        DUE.is("BUSY: lastDiscrepancy()", busy.lastDiscrepancy(), 4);
        DUE.is("BUSY: lastFamilyDiscrepancy()", busy.lastFamilyDiscrepancy(), 0);
        DUE.is("BUSY: slotsUsed()", busy.slotsUsed(), 48 + 2 + 48 + 48);
        DUE.is("BUSY: found(1)", busy.found(1), 12385);
        DUE.is("BUSY: errorCount(-3)", busy.errorCount(-3), 1);
        DUE.is("BUSY: errorCount(-6)", busy.errorCount(-6), 1);
        DUE.is("BUSY: stopCause()", busy.stopCause(), -2);
        DUE.is("BUSY: clearText()", busy.clearText(), 13);
        DUE.is("BUSY: setNoise(3)", busy.setNoise(3), 9);
        DUE.is("BUSY: setMode(0)", busy.setMode(0), 1);
        DUE.is("BUSY: undo()", busy.undo(), 4);
        RomSearchBus calm = Fixture.CALM.make();
        DUE.is("CALM: currentRom()", calm.currentRom(), 12385);
        DUE.is("CALM: lastDiscrepancy()", calm.lastDiscrepancy(), 4);
        DUE.is("CALM: alarmedDevices()", calm.alarmedDevices(), 2);
        DUE.is("CALM: undo()", calm.undo(), 0);
        RomSearchBus full = Fixture.FULL.make();
        DUE.is("FULL: deviceCount()", full.deviceCount(), 8);
        DUE.is("FULL: found(5)", full.found(5), 11665);
        DUE.is("FULL: stopCause()", full.stopCause(), -3);
        DUE.is("FULL: clearText()", full.clearText(), 120);
        DUE.is("FULL: undo()", full.undo(), 4);
    }

    // ---- Description: Undo

    /** "Each successful call of a method whose description says \"undoable\" saves the state from before the call". */
    private static void undoOfEachUndoableCall() {
        for (Object[] row : UNDOABLE) {
            RomSearchBus x = Fixture.CALM.make();
            DUE.holds(row[0] + " is successful", call(x, row) >= -1);
            DUE.is("undo() of " + row[0], x.undo(), 1);
            Twins.alike(DUE, "undo of " + row[0], x, Fixture.CALM.make());
        }
    }

    /** "even if the call changes nothing". */
    private static void undoOfCallsThatChangeNothing() {
        Object[][] rows = {{"setReading", 0, 0, 0}, {"setAlarm", 0, 0, 0}, {"setMode", 0, 0, 0},
            {"resetSearch", 0, 0, 0}, {"setNoise", -1, 0, 0}};
        for (Object[] row : rows) {
            RomSearchBus x = new RomSearchBus();
            Due.run(x, "d1 5;");
            call(x, row);
            DUE.is("undo() of " + row[0] + " that changed nothing", x.undo(), 1);
        }
        RomSearchBus flag = new RomSearchBus();
        flag.skipFamily();
        flag.skipFamily();
        DUE.is("undo() of skipFamily that changed nothing", flag.undo(), 1);
        RomSearchBus target = new RomSearchBus();
        target.targetFamily(0);
        target.targetFamily(0);
        DUE.is("undo() of targetFamily that changed nothing", target.undo(), 1);
        RomSearchBus empty = new RomSearchBus();
        empty.next();
        empty.next();
        DUE.is("undo() of next that changed nothing", empty.undo(), 1);
        RomSearchBus text = new RomSearchBus();
        Due.run(text, "r;");
        DUE.is("undo() of execute that changed nothing", text.undo(), 0);
    }

    /** "at most 5 states are saved": from none to the sixth call and beyond. */
    private static void fiveStatesAtMost() {
        for (int calls = 0; calls <= 12; calls++) {
            RomSearchBus x = new RomSearchBus();
            for (int count = 0; count < calls; count++) {
                x.setNoise(count);
            }
            int saved = Math.min(calls, 5);
            for (int left = saved - 1; left >= 0; left--) {
                DUE.is("undo() of " + calls, x.undo(), left);
            }
            DUE.is("undo() without a state, behind " + calls, x.undo(), -9);
            DUE.is("the setting behind " + calls, x.setNoise(-1), calls - saved - 1);
        }
    }

    /** "and the oldest is dropped first", by each undoable call. */
    private static void oldestStateIsDroppedFirst() {
        for (Object[] row : UNDOABLE) {
            RomSearchBus x = Due.busOf(0, 0, 0, 1, 0, 2, 0, 3, 0, 4);
            DUE.holds(row[0] + " is successful", call(x, row) >= -1);
            for (int left = 4; left >= 0; left--) {
                DUE.is("undo(), " + row[0] + " on top", x.undo(), left);
                DUE.is("deviceCount(), " + row[0] + " on top", x.deviceCount(), left + 1);
            }
            DUE.is("undo() of the one dropped", x.undo(), -9);
        }
    }

    /** "The saved state contains the devices": ROM codes, readings, rules and limits, from none to eight. */
    private static void savedStateContainsTheDevices() {
        RomSearchBus x = new RomSearchBus();
        RomSearchBus y = new RomSearchBus();
        String eight = "d0 0;d0 1;d0 2;d0 3;d0 4;d0 5;d0 6;d0 7;v7-999;l7 3 998;v0 999;l0 2-999;";
        Due.run(x, eight);
        Due.run(y, eight);
        DUE.is("all are changed", Due.run(x, "v0 1;l0 1 1;v7 1;l7 1 1;x0;x0;x0;x0;x0;x0;x0;x0;d9 9;"), 13);
        DUE.is("undo()", x.undo(), 1);
        x.clearText();
        y.clearText();
        DUE.is("alarmedDevices()", x.alarmedDevices(), 128);
        DUE.is("digest() with eight back", x.digest(), y.digest());
        DUE.is("undo()", x.undo(), 0);
        DUE.is("deviceCount() with none back", x.deviceCount(), 0);
        DUE.is("romCode(0) with none back", x.romCode(0), -2);
    }

    /** ".. the search state": all five values, the mode among them. */
    private static void savedStateContainsTheSearchState() {
        RomSearchBus x = Due.busOf(0, 0, 8, 0, 8, 1);
        x.next();
        x.next();
        int rom = x.currentRom();
        int last = x.lastDiscrepancy();
        x.setMode(1);
        x.undo();
        DUE.is("currentRom()", x.currentRom(), rom);
        DUE.is("lastDiscrepancy()", x.lastDiscrepancy(), last);
        DUE.is("lastFamilyDiscrepancy()", x.lastFamilyDiscrepancy(), 3);
        DUE.is("isLastDevice()", x.isLastDevice(), 0);
        x.next();
        x.resetSearch();
        x.undo();
        DUE.is("isLastDevice(), set", x.isLastDevice(), 1);
        DUE.is("the mode", x.setMode(1), 0);
        x.setMode(0);
        x.undo();
        DUE.is("the mode", x.setMode(0), 1);
    }

    /** ".. the noise setting, the number of time slots used and the history". */
    private static void savedStateContainsNoiseSlotsAndHistory() {
        RomSearchBus x = Due.busOf(0, 0, 1, 31, 2, 62, 0, 93, 1, 124, 2, 155, 0, 186);
        for (int pass = 0; pass < 6; pass++) {
            x.next();
        }
        x.setNoise(31);
        x.next();
        DUE.is("found(0) behind the seventh", x.found(0), 27552);
        DUE.is("slotsUsed() behind the seventh", x.slotsUsed(), 7 * 48);
        x.undo();
        DUE.is("found(0), the one forgotten", x.found(0), 0);
        DUE.is("found(5)", x.found(5), 63425);
        DUE.is("slotsUsed()", x.slotsUsed(), 6 * 48);
        DUE.is("the noise", x.setNoise(-1), 31);
        x.undo();
        x.undo();
        DUE.is("no noise before it", x.setNoise(-1), -1);
    }

    /** "It does not contain the error counters". */
    private static void savedStateContainsNoErrorCounters() {
        RomSearchBus x = Due.busOf(1, 5);
        x.setNoise(30);
        x.next();
        x.crc(-1);
        x.addDevice(1, 5);
        x.undo();
        x.undo();
        x.undo();
        x.undo();
        int[] due = {1, 1, 0, 0, 0, 1, 0, 1};
        for (int code = -2; code >= -9; code--) {
            DUE.is("errorCount(" + code + ") behind undo", x.errorCount(code), due[-2 - code]);
        }
    }

    /** ".. the command text": neither its bytes nor its length. */
    private static void savedStateContainsNoText() {
        RomSearchBus x = new RomSearchBus();
        Due.write(x, "d1 5;");
        x.resetSearch();
        Due.write(x, "d1 6;n;");
        DUE.is("undo()", x.undo(), 0);
        DUE.is("execute() of the newer text", x.execute(), 2);
        DUE.is("romCode(0)", x.romCode(0), 12385);
        DUE.is("undo()", x.undo(), 0);
        DUE.is("clearText()", x.clearText(), 7);
        x.resetSearch();
        Due.write(x, "n;");
        x.clearText();
        x.undo();
        DUE.is("the text stays empty", x.clearText(), 0);
    }

    /** ".. and the value of stopCause()". */
    private static void savedStateContainsNoStopCause() {
        RomSearchBus x = new RomSearchBus();
        x.resetSearch();
        Due.run(x, "x0;");
        DUE.is("undo() of the call before the stop", x.undo(), 0);
        DUE.is("stopCause()", x.stopCause(), -2);
        x.addDevice(1, 5);
        Due.run(x, "d1 5;");
        x.undo();
        DUE.is("stopCause() of the newer stop", x.stopCause(), -3);
    }

    /** A method that is not undoable saves no state, and one that only returns something changes nothing. */
    private static void askingSavesAndChangesNothing() {
        for (Object[] row : ASKING) {
            for (Fixture fixture : new Fixture[] {Fixture.BUSY, Fixture.CALM, Fixture.FULL}) {
                RomSearchBus x = fixture.make();
                call(x, row);
                Twins.alike(DUE, fixture + ": " + row[0], x, fixture.make());
            }
        }
    }

    // ---- Description: Errors

    /** "A call that returns an error code changes nothing except that it increments the counter": twice is two. */
    private static void errorChangesItsCounterAlone() {
        Object[][] rows = {{"addDevice", 16, 0, -2}, {"addDevice", 0, 0, -3}, {"addDevice", 9, 9, -4},
            {"removeDevice", 8, 0, -2}, {"setReading", 0, 1000, -2}, {"setAlarm", 0, 4, -2}, {"romCode", 8, 0, -2},
            {"crc", 4096, 0, -2}, {"setMode", 2, 0, -2}, {"targetFamily", 16, 0, -2}, {"setNoise", 32, 0, -2},
            {"found", 6, 0, -2}, {"familyShareBits", 16, 0, -2}, {"append", 128, 0, -2}, {"append", 0, 0, -4},
            {"errorCount", -10, 0, -2}};
        for (Object[] row : rows) {
            int code = (Integer) row[3];
            String name = (String) row[0];
            Ranges.refused(DUE, Fixture.FULL, code, name, (Integer) row[1], (Integer) row[2]);
            RomSearchBus x = Fixture.FULL.make();
            int before = x.errorCount(code);
            for (int times = 1; times <= 3; times++) {
                DUE.is(name, Calls.answer(x, name, (Integer) row[1], (Integer) row[2]), code);
                DUE.is("errorCount(" + code + ") behind " + name, x.errorCount(code), before + times);
            }
        }
    }

    // ---- Promise 27

    /** "Returns the number of saved states that remain": 4 at the most, then down to 0. */
    private static void undoReturnsWhatRemains() {
        RomSearchBus x = Fixture.BUSY.make();
        for (int left = 4; left >= 0; left--) {
            DUE.is("undo()", x.undo(), left);
        }
        DUE.is("undo()", x.undo(), -9);
    }

    /** "NOTHING_SAVED if there is none": it changes nothing but its counter. */
    private static void undoWithoutSavedState() {
        Ranges.refused(DUE, Fixture.NEW, -9, "undo");
        for (Fixture fixture : Fixture.values()) {
            RomSearchBus x = fixture.make();
            RomSearchBus y = fixture.make();
            for (int count = fixture == Fixture.NEW ? 0 : fixture == Fixture.CALM ? 1 : 5; count > 0; count--) {
                x.undo();
                y.undo();
            }
            DUE.is(fixture + ": undo()", x.undo(), -9);
            Twins.alikeButCounted(DUE, fixture + ": undo() without a saved state", x, y, -9);
        }
    }

    /** "Restores the most recently saved state and removes it from the saved states". */
    private static void undoRemovesTheStateItRestores() {
        RomSearchBus x = new RomSearchBus();
        for (int read = 0; read < 3; read++) {
            x.setNoise(read);
        }
        DUE.is("undo()", x.undo(), 2);
        x.setNoise(20);
        x.setNoise(21);
        DUE.is("undo(), to 20", x.undo(), 3);
        DUE.is("undo(), to 1", x.undo(), 2);
        DUE.is("undo(), to 0", x.undo(), 1);
        DUE.is("undo(), to no noise", x.undo(), 0);
        DUE.is("the noise", x.setNoise(5), -1);
    }

    /** undo's description does not say "undoable": it cannot be taken back. */
    private static void undoIsNotUndoable() {
        RomSearchBus x = Due.busOf(1, 5, 1, 6);
        x.undo();
        DUE.is("undo() goes further back", x.undo(), 0);
        DUE.is("deviceCount()", x.deviceCount(), 0);
    }

    // ---- Promise 28

    /** "code: an error code, -9 to -2" and "OUT_OF_RANGE if code is out of range (this increments the counter of OUT_OF_RANGE)". */
    private static void errorCountRange() {
        Ranges.argument(DUE, "errorCount", 0, -9, -2, 0);
        for (int code : new int[] {-1, 0, 1}) {
            Ranges.refused(DUE, Fixture.BUSY, -2, "errorCount", code);
        }
    }

    /** "Returns the counter of the code": each code has its own. */
    private static void errorCountOfEachCode() {
        RomSearchBus x = new RomSearchBus();
        x.undo();
        repeat(x, "next", 2);
        x.skipFamily();
        x.next();
        x.skipFamily();
        x.next();
        x.skipFamily();
        x.next();
        for (int serial = 0; serial < 8; serial++) {
            x.addDevice(1, 5 + serial);
        }
        repeat(x, "addDevice", 4, 1, 5);
        repeat(x, "addDevice", 5, 1, 99);
        repeat(x, "crc", 6, -1);
        x.setMode(1);
        repeat(x, "next", 7);
        x.setAlarm(0, 2, 1);
        for (int times = 0; times < 8; times++) {
            x.setNoise(30);
            DUE.is("next() with a wrong CRC", x.next(), -7);
        }
        int[] due = {6, 4, 5, 2, 7, 8, 3, 1};
        for (int code = -2; code >= -9; code--) {
            DUE.is("errorCount(" + code + ")", x.errorCount(code), due[-2 - code]);
        }
    }

    private static void repeat(RomSearchBus bus, String name, int times, int... arguments) {
        for (int count = 0; count < times; count++) {
            Calls.answer(bus, name, arguments);
        }
    }

    /** "(this increments the counter of OUT_OF_RANGE)": as many times as it is asked. */
    private static void errorCountOfItsOwnErrors() {
        RomSearchBus x = new RomSearchBus();
        int[] wrong = {-10, -1, 0, 9, Integer.MIN_VALUE, Integer.MAX_VALUE};
        for (int index = 0; index < wrong.length; index++) {
            DUE.is("errorCount(" + wrong[index] + ")", x.errorCount(wrong[index]), -2);
            DUE.is("errorCount(-2)", x.errorCount(-2), index + 1);
        }
    }

    // ---- Promise 29

    /** "Returns the number of devices, 0 to 8": up, refused at the top, down, refused at the bottom. */
    private static void deviceCountRange() {
        RomSearchBus x = new RomSearchBus();
        for (int count = 0; count < 8; count++) {
            DUE.is("deviceCount()", x.deviceCount(), count);
            x.addDevice(count, count);
        }
        DUE.is("deviceCount()", x.deviceCount(), 8);
        x.addDevice(9, 9);
        DUE.is("deviceCount() behind FULL", x.deviceCount(), 8);
        for (int count = 7; count >= 0; count--) {
            x.removeDevice(count);
            DUE.is("deviceCount()", x.deviceCount(), count);
        }
        x.removeDevice(0);
        DUE.is("deviceCount() behind OUT_OF_RANGE", x.deviceCount(), 0);
    }

    // ---- Promise 30

    /** h without any overflow: the low 64 bits of it, read as a long, are due. */
    private static BigInteger wholeHash(long... values) {
        BigInteger h = BigInteger.valueOf(2633);
        for (long v : values) {
            h = h.multiply(BigInteger.valueOf(31)).add(BigInteger.valueOf(v));
        }
        return h;
    }

    /** "with the overflow of long arithmetic ignored": already the hash of a new object is beyond a long. */
    private static void digestOverflows() {
        long[] values = {0, 0, 0, 0, 0, 0, 0, 0, 0, 0, -1, -1, 0, 0, -1, 0, 0, 0, 0, 0};
        BigInteger whole = wholeHash(values);
        DUE.holds("the hash is beyond a long", whole.bitLength() > 63);
        DUE.is("digest() of a new object", new RomSearchBus().digest(), whole.longValue());
        boolean positive = false;
        boolean negative = false;
        for (int length = 1; length <= 20; length++) {
            RomSearchBus x = new RomSearchBus();
            Due.write(x, "n".repeat(length));
            values[17] = length;
            long digest = x.digest();
            DUE.is("digest() with a text of " + length, digest, wholeHash(values).longValue());
            x.addDevice(length % 16, length);
            positive |= x.digest() > 0;
            negative |= x.digest() < 0;
        }
        DUE.holds("the wrapped hashes have both signs", positive && negative);
    }

    /** Readings, limits, discrepancies, the noise and stopCause() enter as they are, below 0, too. */
    private static void digestOfNegativeValues() {
        RomSearchBus x = Due.busOf(15, 255);
        x.setReading(0, -999);
        x.setAlarm(0, 3, -999);
        Due.run(x, "d15 255;");
        DUE.is("digest()", x.digest(), wholeHash(0, 0, 0, 0, 0, 0, 0, 0,
                1, 32767, -999, 3, -999, 0, -1, -1, 0, 0, -1, 0, 0, 8, 3, -3).longValue());
    }

    /** "the last-device flag (1 or 0), the mode": both of each. */
    private static void digestOfTheFlagAndTheMode() {
        RomSearchBus x = new RomSearchBus();
        x.skipFamily();
        DUE.is("digest() with the flag", x.digest(), wholeHash(0, 0, 0, 0, 0, 0, 0, 0,
                0, 0, -1, -1, 1, 0, -1, 0, 0, 0, 1, 0).longValue());
        x.setMode(1);
        DUE.is("digest() with mode 1", x.digest(), wholeHash(0, 0, 0, 0, 0, 0, 0, 0,
                0, 0, -1, -1, 0, 1, -1, 0, 0, 0, 2, 0).longValue());
        x.skipFamily();
        DUE.is("digest() with both", x.digest(), wholeHash(0, 0, 0, 0, 0, 0, 0, 0,
                0, 0, -1, -1, 1, 1, -1, 0, 0, 0, 3, 0).longValue());
    }

    /** "for each device ..; the number of codes in the history and these codes, the oldest first": eight and six. */
    private static void digestWithAllPartsFull() {
        RomSearchBus x = Fixture.FULL.make();
        x.setNoise(31);
        DUE.is("digest()", x.digest(), wholeHash(0, 0, 0, 0, 0, 0, 0, 0, 8,
                x.romCode(0), 0, 0, 0, x.romCode(1), 0, 0, 0, x.romCode(2), 0, 0, 0, x.romCode(3), 0, 0, 0,
                x.romCode(4), 0, 0, 0, x.romCode(5), 0, 0, 0, x.romCode(6), 0, 0, 0, x.romCode(7), 0, 0, 0,
                11665, x.lastDiscrepancy(), 0, 0, 0, 31, 7 * 48,
                6, 27552, 13776, 25570, 47538, 63425, 11665, 120, 5, -3).longValue());
        RomSearchBus y = new RomSearchBus();
        y.targetFamily(15);
        y.crc(-1);
        y.undo();
        y.undo();
        y.targetFamily(15);
        DUE.is("digest() with a last discrepancy of 16", y.digest(), wholeHash(1, 0, 0, 0, 0, 0, 0, 1,
                0, 15, 16, -1, 0, 0, -1, 0, 0, 0, 1, 0).longValue());
    }

    /** "the length of the command text; the number of saved states": 0 to 120 and 0 to 5. */
    private static void digestTellsTheNumberOfStatesAndBytes() {
        RomSearchBus x = new RomSearchBus();
        for (int saved = 0; saved <= 7; saved++) {
            DUE.is("digest() with saved states", x.digest(), wholeHash(0, 0, 0, 0, 0, 0, 0, 0,
                    0, 0, -1, -1, 0, 0, -1, 0, 0, 0, Math.min(saved, 5), 0).longValue());
            x.resetSearch();
        }
        RomSearchBus y = new RomSearchBus();
        for (int length = 0; length <= 120; length++) {
            DUE.is("digest() with bytes", y.digest(), wholeHash(0, 0, 0, 0, 0, 0, 0, 0,
                    0, 0, -1, -1, 0, 0, -1, 0, 0, length, 0, 0).longValue());
            y.append(59);
        }
    }

    // ---- What it is

    /** "An object is used for at most 512 calls": the 512th answers as the first would. */
    private static void the512thCall() {
        RomSearchBus refused = new RomSearchBus();
        repeat(refused, "errorCount", 511, 0);
        DUE.is("errorCount(-2) as the 512th call", refused.errorCount(-2), 511);
        RomSearchBus passing = Due.busOf(0, 0);
        repeat(passing, "next", 510);
        DUE.is("slotsUsed() as the 512th call", passing.slotsUsed(), 255 * 48);
        RomSearchBus saving = new RomSearchBus();
        for (int call = 1; call <= 511; call++) {
            saving.setNoise(call % 32);
        }
        DUE.is("undo() as the 512th call", saving.undo(), 4);
        RomSearchBus finding = Fixture.FULL.make();
        repeat(finding, "next", 511 - 8 - 7 - 7 - 121);
        DUE.is("next() as the 512th call, the seventh of a round", finding.next(), 11665);
    }
}
