/**
 * Compares two objects by all that calls can tell of them: the counters, the
 * digest, every saved state behind it, and what the command text does. Both
 * objects are used up by it.
 */
final class Twins {
    private static final int SAVED_STATES = 5;
    private static final int HISTORY = 6;
    private static final int NO_CODE = 0;

    private Twins() {
    }

    static void alike(Due due, String told, RomSearchBus one, RomSearchBus other) {
        compare(due, told, one, other, NO_CODE);
    }

    /** As alike, but {@code one} has counted one error of the code more than the other. */
    static void alikeButCounted(Due due, String told, RomSearchBus one, RomSearchBus other, int code) {
        compare(due, told + ", counted", one, other, code);
    }

    private static void compare(Due due, String told, RomSearchBus one, RomSearchBus other, int code) {
        for (int each = -9; each <= -2; each++) {
            int more = each == code ? 1 : 0;
            due.is(told + ": errorCount(" + each + ")", one.errorCount(each), other.errorCount(each) + more);
        }
        due.is(told + ": stopCause()", one.stopCause(), other.stopCause());
        states(due, told, one, other, code);
        for (int back = 1; back <= SAVED_STATES + 1; back++) {
            String undone = told + ", " + back + " back";
            due.is(undone + ": undo()", one.undo(), other.undo());
            states(due, undone, one, other, code);
        }
        due.is(told + ": execute()", one.execute(), other.execute());
        states(due, told + ", executed", one, other, code);
        due.is(told + ": clearText()", one.clearText(), other.clearText());
    }

    private static void states(Due due, String told, RomSearchBus one, RomSearchBus other, int code) {
        int remembered = 0;
        for (int index = 0; index < HISTORY; index++) {
            int due1 = other.found(index);
            due.is(told + ": found(" + index + ")", one.found(index), due1);
            remembered += due1 >= 0 ? 1 : 0;
        }
        due.is(told + ": deviceCount()", one.deviceCount(), other.deviceCount());
        due.is(told + ": alarmedDevices()", one.alarmedDevices(), other.alarmedDevices());
        due.is(told + ": currentRom()", one.currentRom(), other.currentRom());
        due.is(told + ": slotsUsed()", one.slotsUsed(), other.slotsUsed());
        long apart = code == NO_CODE ? 0 : weightOf(code, other.deviceCount(), remembered);
        due.is(told + ": digest()", one.digest(), other.digest() + apart);
    }

    /** What one more error of a code adds to the digest: 31 for each value that stands behind its counter. */
    private static long weightOf(int code, int devices, int remembered) {
        int countersBehind = code + 9;
        int values = countersBehind + 1 + 4 * devices + 5 + 1 + 1 + 1 + remembered + 3;
        long weight = 1;
        for (int value = 0; value < values; value++) {
            weight *= 31;
        }
        return weight;
    }
}
