/** Objects in states that are rich enough to show a change that should not be. */
enum Fixture {
    /** Nothing has been called yet. */
    NEW {
        @Override
        RomSearchBus make() {
            return new RomSearchBus();
        }
    },
    /** Four devices, an alarm search under way, noise, errors, a stopped execution, five saved states. */
    BUSY {
        @Override
        RomSearchBus make() {
            RomSearchBus bus = Due.busOf(1, 5, 1, 6, 2, 5, 15, 255);
            bus.addDevice(1, 5);
            bus.next();
            bus.setMode(1);
            bus.next();
            Due.run(bus, "l0 1-3;v1-7;l1 3 6;l2 2 9;");
            Due.run(bus, "x9;");
            bus.next();
            bus.next();
            bus.setNoise(9);
            Due.write(bus, "d9 9;n;v0 77;");
            return bus;
        }
    },
    /** One saved state only, so that a call and its undo leave the saved states as they were. */
    CALM {
        @Override
        RomSearchBus make() {
            RomSearchBus bus = new RomSearchBus();
            Due.run(bus, "d1 5;d1 6;d2 5;l1 3 6;v1-7;n;n;");
            return bus;
        }
    },
    /** Eight devices, six codes remembered, 120 bytes of text, five saved states. */
    FULL {
        @Override
        RomSearchBus make() {
            RomSearchBus bus = Due.busOf(0, 0, 1, 31, 2, 62, 0, 93, 1, 124, 2, 155, 0, 186, 1, 217);
            for (int pass = 0; pass < 7; pass++) {
                bus.next();
            }
            Due.run(bus, "d0 0;");
            Due.write(bus, "n;".repeat(60));
            return bus;
        }
    };

    abstract RomSearchBus make();
}
