/**
 * The range of one argument: its lowest and highest value are taken; the value
 * one beyond each of them and the least and greatest int are refused with
 * OUT_OF_RANGE, in every fixture, and leave all else as it was.
 */
final class Ranges {
    private static final int OUT_OF_RANGE = -2;

    private Ranges() {
    }

    /** The arguments hold a good value at each other place; what stands at {@code place} is replaced. */
    static void argument(Due due, String name, int place, int lowest, int highest, int... arguments) {
        for (int value : new int[] {lowest, highest}) {
            accepted(due, Fixture.BUSY, name, with(arguments, place, value));
        }
        for (Fixture fixture : Fixture.values()) {
            for (int value : beyond(lowest, highest)) {
                refused(due, fixture, OUT_OF_RANGE, name, with(arguments, place, value));
            }
        }
    }

    /** The first argument is the number of a device: a fixture without devices takes none at all. */
    static void device(Due due, String name, int... arguments) {
        for (Fixture fixture : Fixture.values()) {
            int devices = fixture.make().deviceCount();
            if (devices > 0) {
                accepted(due, fixture, name, with(arguments, 0, 0));
                accepted(due, fixture, name, with(arguments, 0, devices - 1));
            }
            for (int value : beyond(0, devices - 1)) {
                refused(due, fixture, OUT_OF_RANGE, name, with(arguments, 0, value));
            }
        }
    }

    static void accepted(Due due, Fixture fixture, String name, int... arguments) {
        RomSearchBus bus = fixture.make();
        int errors = bus.errorCount(OUT_OF_RANGE);
        String told = fixture + ": " + Calls.told(name, arguments);
        due.holds(told + " is taken", Calls.answer(bus, name, arguments) >= -1);
        due.is(told + " counts no error", bus.errorCount(OUT_OF_RANGE), errors);
    }

    /** "A call that returns an error code changes nothing except that it increments the counter of that code." */
    static void refused(Due due, Fixture fixture, int code, String name, int... arguments) {
        RomSearchBus bus = fixture.make();
        String told = fixture + ": " + Calls.told(name, arguments);
        due.is(told, Calls.answer(bus, name, arguments), code);
        Twins.alikeButCounted(due, told, bus, fixture.make(), code);
    }

    private static int[] beyond(int lowest, int highest) {
        return new int[] {lowest - 1, highest + 1, Integer.MIN_VALUE, Integer.MAX_VALUE};
    }

    private static int[] with(int[] arguments, int place, int value) {
        int[] changed = arguments.clone();
        changed[place] = value;
        return changed;
    }
}
