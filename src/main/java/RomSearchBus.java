/**
 * A simulator of a 1-Wire bus and of the binary-tree ROM search that a bus
 * master uses to find the devices on it.
 *
 * <p>Every row that a call needs is made with the object: no call makes an
 * object or an array of its own.
 */
public final class RomSearchBus {
    public static final int OUT_OF_RANGE = -2;
    public static final int DUPLICATE = -3;
    public static final int FULL = -4;
    public static final int NO_PRESENCE = -5;
    public static final int NO_DEVICE = -6;
    public static final int CRC_ERROR = -7;
    public static final int NO_MORE = -8;
    public static final int NOTHING_SAVED = -9;

    private static final int ERROR_CODES = 8;
    private static final int MAX_FAMILY = 15;
    private static final int MAX_SERIAL = 255;
    private static final int MAX_MEASURE = 999;
    private static final int MAX_RULE = 3;
    private static final int MAX_BYTE = 127;
    private static final int MAX_READ = 31;
    private static final int MAX_AHEAD = 20;

    private static final int SERIAL_SHIFT = 4;
    private static final int CONTENT_BITS = 12;
    private static final int FAMILY_MASK = 0xF;
    private static final int CONTENT_MASK = 0xFFF;
    private static final int CRC_FEEDBACK = 12;

    private static final int ROM_BITS = 16;
    private static final int LAST_FAMILY_BIT = 3;
    private static final int NO_DISCREPANCY = -1;
    private static final int BEYOND_LAST_BIT = 16;
    private static final int NO_NOISE = -1;

    private static final int SYNTAX_ERROR_BASE = -10;
    private static final int STOPPED_BASE = -1000;
    private static final int NO_SYNTAX_ERROR = -1;

    private static final int FLOAT_FRACTION_BITS = 23;
    private static final int FLOAT_FRACTION_SCALE = 1 << FLOAT_FRACTION_BITS;
    private static final int FLOAT_EXPONENT_OF_ONE = 127;

    private static final long DIGEST_START = 2633L;

    private final BusState state;
    private final BusState before;
    private final BusState trial;
    private final SavedStates saved;
    private final CommandText text;
    private final int[] errors;
    private int latestStop;

    public RomSearchBus() {
        state = new BusState();
        before = new BusState();
        trial = new BusState();
        saved = new SavedStates();
        text = new CommandText();
        errors = new int[ERROR_CODES];
        latestStop = 0;
    }

    public int addDevice(int family, int serial) {
        before.copyFrom(state);
        return settle(state.devices.attach(family, serial));
    }

    public int removeDevice(int device) {
        before.copyFrom(state);
        return settle(state.devices.detach(device));
    }

    public int setReading(int device, int value) {
        before.copyFrom(state);
        return settle(state.devices.storeReading(device, value));
    }

    public int setAlarm(int device, int rule, int limit) {
        before.copyFrom(state);
        return settle(state.devices.storeAlarm(device, rule, limit));
    }

    public int romCode(int device) {
        if (!state.devices.has(device)) {
            return counted(OUT_OF_RANGE);
        }
        return state.devices.roms[device];
    }

    public int alarmedDevices() {
        return state.devices.alarmedSet();
    }

    public int crc(int value) {
        if (!isWithin(value, 0, CONTENT_MASK)) {
            return counted(OUT_OF_RANGE);
        }
        return crcOf(value);
    }

    public int setMode(int mode) {
        before.copyFrom(state);
        return settle(state.switchMode(mode));
    }

    public int resetSearch() {
        before.copyFrom(state);
        return settle(state.restart());
    }

    public int next() {
        before.copyFrom(state);
        int result = state.searchPass();
        // A pass that finds nothing is undoable as well, so this call does not settle.
        saved.push(before);
        return isErrorCode(result) ? counted(result) : result;
    }

    public int skipFamily() {
        before.copyFrom(state);
        return settle(state.leaveFamily());
    }

    public int targetFamily(int family) {
        before.copyFrom(state);
        return settle(state.aimAtFamily(family));
    }

    public int setNoise(int read) {
        before.copyFrom(state);
        return settle(state.disturb(read));
    }

    public int countAhead() {
        trial.copyFrom(state);
        int passes = 0;
        while (passes < MAX_AHEAD && trial.searchPass() >= 0) {
            passes++;
        }
        return passes;
    }

    public int currentRom() {
        return state.rom;
    }

    public int lastDiscrepancy() {
        return state.discrepancy;
    }

    public int lastFamilyDiscrepancy() {
        return state.familyDiscrepancy;
    }

    public int isLastDevice() {
        return state.lastDevice ? 1 : 0;
    }

    public int slotsUsed() {
        return state.slots;
    }

    public int found(int index) {
        if (!state.history.has(index)) {
            return counted(OUT_OF_RANGE);
        }
        return state.history.codes[index];
    }

    public int familyShareBits(int family) {
        if (!isWithin(family, 0, MAX_FAMILY)) {
            return counted(OUT_OF_RANGE);
        }
        return shareBits(state.devices.membersOf(family), state.devices.count);
    }

    public int append(int value) {
        if (!isWithin(value, 0, MAX_BYTE)) {
            return counted(OUT_OF_RANGE);
        }
        if (!text.hasRoom()) {
            return counted(FULL);
        }
        return text.put(value);
    }

    public int clearText() {
        return text.empty();
    }

    public int execute() {
        int errorPosition = text.parse();
        if (errorPosition != NO_SYNTAX_ERROR) {
            return SYNTAX_ERROR_BASE - errorPosition;
        }
        before.copyFrom(state);
        int commands = text.commands;
        for (int index = 0; index < commands; index++) {
            int result = runCommand(index);
            if (stopsExecution(result)) {
                state.copyFrom(before);
                latestStop = result;
                return STOPPED_BASE - index;
            }
        }
        saved.push(before);
        return commands;
    }

    public int stopCause() {
        return latestStop;
    }

    public int undo() {
        if (saved.count == 0) {
            return counted(NOTHING_SAVED);
        }
        return saved.popInto(state);
    }

    public int errorCount(int code) {
        if (!isErrorCode(code)) {
            return counted(OUT_OF_RANGE);
        }
        return errors[OUT_OF_RANGE - code];
    }

    public int deviceCount() {
        return state.devices.count;
    }

    public long digest() {
        long hash = DIGEST_START;
        for (int index = 0; index < ERROR_CODES; index++) {
            hash = mixed(hash, errors[index]);
        }
        hash = state.mixInto(hash);
        hash = mixed(hash, text.length);
        hash = mixed(hash, saved.count);
        return mixed(hash, latestStop);
    }

    /** A refused call has changed nothing, so only a call that was carried out leaves a state to undo. */
    private int settle(int result) {
        if (isErrorCode(result)) {
            return counted(result);
        }
        saved.push(before);
        return result;
    }

    private int counted(int code) {
        if (isErrorCode(code)) {
            errors[OUT_OF_RANGE - code]++;
        }
        return code;
    }

    private int runCommand(int index) {
        int first = text.numberOf(index, 0);
        int second = text.numberOf(index, 1);
        int third = text.numberOf(index, 2);
        switch (text.letterOf(index)) {
            case 'd':
                return state.devices.attach(first, second);
            case 'x':
                return state.devices.detach(first);
            case 'v':
                return state.devices.storeReading(first, second);
            case 'l':
                return state.devices.storeAlarm(first, second, third);
            case 'm':
                return state.switchMode(first);
            case 'r':
                return state.restart();
            case 'n':
                return state.searchPass();
            case 'k':
                return state.leaveFamily();
            default:
                return OUT_OF_RANGE;
        }
    }

    private static boolean stopsExecution(int result) {
        return result == OUT_OF_RANGE || result == DUPLICATE || result == FULL;
    }

    private static boolean isErrorCode(int value) {
        return isWithin(value, NOTHING_SAVED, OUT_OF_RANGE);
    }

    private static boolean isWithin(int value, int lowest, int highest) {
        return value >= lowest && value <= highest;
    }

    private static int bitAt(int value, int position) {
        return (value >> position) & 1;
    }

    private static int crcOf(int content) {
        int sum = 0;
        for (int position = 0; position < CONTENT_BITS; position++) {
            int mix = bitAt(content, position) ^ (sum & 1);
            sum >>= 1;
            if (mix == 1) {
                sum ^= CRC_FEEDBACK;
            }
        }
        return sum;
    }

    private static int romOf(int family, int serial) {
        int content = family | (serial << SERIAL_SHIFT);
        return content | (crcOf(content) << CONTENT_BITS);
    }

    private static long mixed(long hash, int value) {
        return 31L * hash + value;
    }

    /**
     * The library for the bits of a float is not to be had here. A share is 0 or
     * from 1/8 to 1, and doubling it is exact, so its parts are read off it.
     */
    private static int shareBits(int members, int all) {
        if (members <= 0 || all <= 0) {
            return 0;
        }
        float share = (float) members / (float) all;
        int exponent = FLOAT_EXPONENT_OF_ONE;
        while (share < 1.0f && exponent > 0) {
            share = share * 2.0f;
            exponent--;
        }
        int fraction = (int) (share * (float) FLOAT_FRACTION_SCALE) - FLOAT_FRACTION_SCALE;
        return (exponent << FLOAT_FRACTION_BITS) | fraction;
    }

    /** The devices on the bus; the first {@code count} places of each row are in use. */
    private static final class Devices {
        private static final int LIMIT = 8;

        final int[] roms;
        final int[] readings;
        final int[] rules;
        final int[] limits;
        int count;

        Devices() {
            roms = new int[LIMIT];
            readings = new int[LIMIT];
            rules = new int[LIMIT];
            limits = new int[LIMIT];
            count = 0;
        }

        void copyFrom(Devices other) {
            System.arraycopy(other.roms, 0, roms, 0, LIMIT);
            System.arraycopy(other.readings, 0, readings, 0, LIMIT);
            System.arraycopy(other.rules, 0, rules, 0, LIMIT);
            System.arraycopy(other.limits, 0, limits, 0, LIMIT);
            count = other.count;
        }

        boolean has(int device) {
            return device >= 0 && device < count;
        }

        int attach(int family, int serial) {
            if (!isWithin(family, 0, MAX_FAMILY) || !isWithin(serial, 0, MAX_SERIAL)) {
                return OUT_OF_RANGE;
            }
            int rom = romOf(family, serial);
            if (hasRom(rom)) {
                return DUPLICATE;
            }
            if (count >= LIMIT) {
                return FULL;
            }
            roms[count] = rom;
            readings[count] = 0;
            rules[count] = 0;
            limits[count] = 0;
            count++;
            return count - 1;
        }

        int detach(int device) {
            if (!has(device)) {
                return OUT_OF_RANGE;
            }
            closeGap(roms, device);
            closeGap(readings, device);
            closeGap(rules, device);
            closeGap(limits, device);
            count--;
            return count;
        }

        int storeReading(int device, int value) {
            if (!has(device) || !isWithin(value, -MAX_MEASURE, MAX_MEASURE)) {
                return OUT_OF_RANGE;
            }
            readings[device] = value;
            return isAlarmed(device) ? 1 : 0;
        }

        int storeAlarm(int device, int rule, int limit) {
            if (!has(device) || !isWithin(rule, 0, MAX_RULE)
                    || !isWithin(limit, -MAX_MEASURE, MAX_MEASURE)) {
                return OUT_OF_RANGE;
            }
            rules[device] = rule;
            limits[device] = limit;
            return isAlarmed(device) ? 1 : 0;
        }

        int wholeSet() {
            return (1 << count) - 1;
        }

        int alarmedSet() {
            int set = 0;
            for (int device = 0; device < count; device++) {
                if (isAlarmed(device)) {
                    set |= 1 << device;
                }
            }
            return set;
        }

        int setWithOneAt(int position) {
            int set = 0;
            for (int device = 0; device < count; device++) {
                set |= bitAt(roms[device], position) << device;
            }
            return set;
        }

        int membersOf(int family) {
            int members = 0;
            for (int device = 0; device < count; device++) {
                if ((roms[device] & FAMILY_MASK) == family) {
                    members++;
                }
            }
            return members;
        }

        long mixInto(long start) {
            long hash = mixed(start, count);
            for (int device = 0; device < count; device++) {
                hash = mixed(hash, roms[device]);
                hash = mixed(hash, readings[device]);
                hash = mixed(hash, rules[device]);
                hash = mixed(hash, limits[device]);
            }
            return hash;
        }

        private boolean hasRom(int rom) {
            for (int device = 0; device < count; device++) {
                if (roms[device] == rom) {
                    return true;
                }
            }
            return false;
        }

        private void closeGap(int[] row, int device) {
            for (int place = device; place + 1 < count; place++) {
                row[place] = row[place + 1];
            }
        }

        private boolean isAlarmed(int device) {
            int reading = readings[device];
            int limit = limits[device];
            switch (rules[device]) {
                case 1:
                    return reading > limit;
                case 2:
                    return reading < limit;
                case 3:
                    return Math.abs(reading) > Math.abs(limit);
                default:
                    return false;
            }
        }
    }

    /** The ROM codes found last, the oldest first. */
    private static final class History {
        private static final int LIMIT = 6;

        final int[] codes;
        int count;

        History() {
            codes = new int[LIMIT];
            count = 0;
        }

        void copyFrom(History other) {
            System.arraycopy(other.codes, 0, codes, 0, LIMIT);
            count = other.count;
        }

        boolean has(int index) {
            return index >= 0 && index < count;
        }

        void remember(int code) {
            if (holds(code)) {
                return;
            }
            if (count >= LIMIT) {
                forgetOldest();
            }
            codes[count] = code;
            count++;
        }

        long mixInto(long start) {
            long hash = mixed(start, count);
            for (int index = 0; index < count; index++) {
                hash = mixed(hash, codes[index]);
            }
            return hash;
        }

        private boolean holds(int code) {
            for (int index = 0; index < count; index++) {
                if (codes[index] == code) {
                    return true;
                }
            }
            return false;
        }

        private void forgetOldest() {
            for (int index = 0; index + 1 < count; index++) {
                codes[index] = codes[index + 1];
            }
            count--;
        }
    }

    /** All that undo brings back: devices, search state, noise, time slots and history. */
    private static final class BusState {
        final Devices devices;
        final History history;
        int rom;
        int discrepancy;
        int familyDiscrepancy;
        boolean lastDevice;
        int mode;
        int noise;
        int slots;

        BusState() {
            devices = new Devices();
            history = new History();
            rom = 0;
            discrepancy = NO_DISCREPANCY;
            familyDiscrepancy = NO_DISCREPANCY;
            lastDevice = false;
            mode = 0;
            noise = NO_NOISE;
            slots = 0;
        }

        void copyFrom(BusState other) {
            devices.copyFrom(other.devices);
            history.copyFrom(other.history);
            rom = other.rom;
            discrepancy = other.discrepancy;
            familyDiscrepancy = other.familyDiscrepancy;
            lastDevice = other.lastDevice;
            mode = other.mode;
            noise = other.noise;
            slots = other.slots;
        }

        int switchMode(int newMode) {
            if (!isWithin(newMode, 0, 1)) {
                return OUT_OF_RANGE;
            }
            int previous = mode;
            restart();
            mode = newMode;
            return previous;
        }

        int restart() {
            int previous = rom;
            rom = 0;
            discrepancy = NO_DISCREPANCY;
            familyDiscrepancy = NO_DISCREPANCY;
            lastDevice = false;
            return previous;
        }

        int leaveFamily() {
            discrepancy = familyDiscrepancy;
            familyDiscrepancy = NO_DISCREPANCY;
            if (discrepancy == NO_DISCREPANCY) {
                lastDevice = true;
            }
            return discrepancy;
        }

        int aimAtFamily(int family) {
            if (!isWithin(family, 0, MAX_FAMILY)) {
                return OUT_OF_RANGE;
            }
            restart();
            rom = family;
            discrepancy = BEYOND_LAST_BIT;
            return rom;
        }

        int disturb(int read) {
            if (!isWithin(read, NO_NOISE, MAX_READ)) {
                return OUT_OF_RANGE;
            }
            int previous = noise;
            noise = read;
            return previous;
        }

        /** Answers the ROM code found, or the error code with which the pass ended. */
        int searchPass() {
            if (lastDevice) {
                return fail(NO_MORE);
            }
            if (devices.count == 0) {
                return fail(NO_PRESENCE);
            }
            int active = mode == 0 ? devices.wholeSet() : devices.alarmedSet();
            int lastZero = NO_DISCREPANCY;
            for (int position = 0; position < ROM_BITS; position++) {
                int ones = devices.setWithOneAt(position);
                int idBit = readSlot((active & ~ones) == 0 ? 1 : 0, 2 * position);
                int complementBit = readSlot((active & ones) == 0 ? 1 : 0, 2 * position + 1);
                if (idBit == 1 && complementBit == 1) {
                    return fail(NO_DEVICE);
                }
                int direction = idBit;
                if (idBit == complementBit) {
                    direction = directionAt(position);
                    if (direction == 0) {
                        lastZero = position;
                        noteFamilyZero(position);
                    }
                }
                writeSlot(direction, position);
                active &= direction == 1 ? ones : ~ones;
            }
            discrepancy = lastZero;
            lastDevice = lastZero == NO_DISCREPANCY;
            if (crcOf(rom & CONTENT_MASK) != rom >> CONTENT_BITS) {
                return fail(CRC_ERROR);
            }
            history.remember(rom);
            return rom;
        }

        long mixInto(long start) {
            long hash = devices.mixInto(start);
            hash = mixed(hash, rom);
            hash = mixed(hash, discrepancy);
            hash = mixed(hash, familyDiscrepancy);
            hash = mixed(hash, lastDevice ? 1 : 0);
            hash = mixed(hash, mode);
            hash = mixed(hash, noise);
            hash = mixed(hash, slots);
            return history.mixInto(hash);
        }

        private int fail(int code) {
            restart();
            return code;
        }

        private int readSlot(int bit, int read) {
            slots++;
            if (read != noise) {
                return bit;
            }
            noise = NO_NOISE;
            return 1 - bit;
        }

        private void writeSlot(int direction, int position) {
            slots++;
            rom = (rom & ~(1 << position)) | (direction << position);
        }

        private int directionAt(int position) {
            if (position < discrepancy) {
                return bitAt(rom, position);
            }
            return position == discrepancy ? 1 : 0;
        }

        private void noteFamilyZero(int position) {
            if (position <= LAST_FAMILY_BIT) {
                familyDiscrepancy = position;
            }
        }
    }

    /** The states that undo can bring back, the oldest first. */
    private static final class SavedStates {
        private static final int LIMIT = 5;

        final BusState[] states;
        int count;

        SavedStates() {
            states = new BusState[LIMIT];
            for (int index = 0; index < LIMIT; index++) {
                states[index] = new BusState();
            }
            count = 0;
        }

        void push(BusState state) {
            if (count >= LIMIT) {
                dropOldest();
            }
            states[count].copyFrom(state);
            count++;
        }

        int popInto(BusState state) {
            if (count > 0) {
                count--;
                state.copyFrom(states[count]);
            }
            return count;
        }

        /** The dropped object goes to the free place at the end, to be used again. */
        private void dropOldest() {
            BusState oldest = states[0];
            for (int index = 0; index + 1 < LIMIT; index++) {
                states[index] = states[index + 1];
            }
            states[LIMIT - 1] = oldest;
            count--;
        }
    }

    /** The command text, and the commands that its latest parse has read from it. */
    private static final class CommandText {
        private static final int LIMIT = 120;
        /** A command has at least its letter and its semicolon. */
        private static final int MAX_COMMANDS = LIMIT / 2;
        private static final int MAX_NUMBERS = 3;
        private static final int MAX_DIGITS = 3;
        private static final int NO_COMMAND = -1;
        private static final int END = -1;

        final byte[] bytes;
        final byte[] letters;
        final int[] numbers;
        int length;
        int commands;
        int cursor;

        CommandText() {
            bytes = new byte[LIMIT];
            letters = new byte[MAX_COMMANDS];
            numbers = new int[MAX_COMMANDS * MAX_NUMBERS];
            length = 0;
            commands = 0;
            cursor = 0;
        }

        boolean hasRoom() {
            return length < LIMIT;
        }

        int put(int value) {
            if (hasRoom()) {
                bytes[length] = (byte) value;
                length++;
            }
            return length;
        }

        int empty() {
            int previous = length;
            length = 0;
            return previous;
        }

        int letterOf(int command) {
            return isWithin(command, 0, MAX_COMMANDS - 1) ? letters[command] : NO_COMMAND;
        }

        /** What stands at a place that the command does not take is of no meaning. */
        int numberOf(int command, int place) {
            boolean stands = isWithin(command, 0, MAX_COMMANDS - 1)
                    && isWithin(place, 0, MAX_NUMBERS - 1);
            return stands ? numbers[command * MAX_NUMBERS + place] : 0;
        }

        /**
         * Answers the syntax error position, or NO_SYNTAX_ERROR. The cursor halts at
         * the byte that cannot stand, or at the end of a text that ends too early.
         */
        int parse() {
            commands = 0;
            cursor = 0;
            skipSpaces();
            for (int turn = 0; turn < MAX_COMMANDS && readCommand(); turn++) {
                skipSpaces();
                if (cursor == length) {
                    return NO_SYNTAX_ERROR;
                }
            }
            return cursor;
        }

        private boolean readCommand() {
            int letter = byteAtCursor();
            int needed = numbersNeeded(letter);
            if (needed == NO_COMMAND || commands >= MAX_COMMANDS) {
                return false;
            }
            cursor++;
            letters[commands] = (byte) letter;
            for (int place = 0; place < needed; place++) {
                skipSpaces();
                if (!readNumber(place, mayBeNegative(letter, place))) {
                    return false;
                }
            }
            skipSpaces();
            if (byteAtCursor() != ';') {
                return false;
            }
            cursor++;
            commands++;
            return true;
        }

        private boolean readNumber(int place, boolean signed) {
            boolean negative = signed && byteAtCursor() == '-';
            if (negative) {
                cursor++;
            }
            int value = 0;
            int digits = 0;
            while (digits < MAX_DIGITS && isDigit(byteAtCursor())) {
                value = 10 * value + byteAtCursor() - '0';
                cursor++;
                digits++;
            }
            numbers[commands * MAX_NUMBERS + place] = negative ? -value : value;
            return digits > 0 && !isDigit(byteAtCursor());
        }

        private void skipSpaces() {
            while (cursor < length && byteAtCursor() == ' ') {
                cursor++;
            }
        }

        private int byteAtCursor() {
            return cursor < length ? bytes[cursor] : END;
        }

        private static boolean isDigit(int sign) {
            return sign >= '0' && sign <= '9';
        }

        private static int numbersNeeded(int letter) {
            switch (letter) {
                case 'r':
                case 'n':
                case 'k':
                    return 0;
                case 'x':
                case 'm':
                    return 1;
                case 'd':
                case 'v':
                    return 2;
                case 'l':
                    return 3;
                default:
                    return NO_COMMAND;
            }
        }

        /** Only a reading and a limit may have a minus sign. */
        private static boolean mayBeNegative(int letter, int place) {
            return (letter == 'v' && place == 1) || (letter == 'l' && place == 2);
        }
    }
}
