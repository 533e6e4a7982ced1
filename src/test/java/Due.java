/** Compares answers with what is due, prints those that differ, and ends the test. */
final class Due {
    private static final int SHOWN = 50;
    private static final long LONGEST_MILLIS = 300_000;
    private int asked = 0;
    private int wrong = 0;

    Due() {
        Thread watch = new Thread(Due::endLate);
        watch.setDaemon(true);
        watch.start();
    }

    /** A call that never ends is a fault like any other: without this the test would hang and tell nothing. */
    private static void endLate() {
        try {
            Thread.sleep(LONGEST_MILLIS);
        } catch (InterruptedException interrupted) {
            return;
        }
        System.out.println("the test has not ended after " + LONGEST_MILLIS + " ms");
        Runtime.getRuntime().halt(1);
    }

    void is(String call, long got, long want) {
        asked++;
        if (got != want) {
            wrong++;
            if (wrong <= SHOWN) {
                System.out.println(call + " answered " + got + ", due is " + want);
            }
        }
    }

    void holds(String claim, boolean stands) {
        is(claim, stands ? 1 : 0, 1);
    }

    int wrong() {
        return wrong;
    }

    void end() {
        System.out.println(asked + " answers asked, " + wrong + " are not as due");
        if (wrong != 0 || asked == 0) {
            System.exit(1);
        }
    }

    static void write(RomSearchBus bus, String text) {
        bus.clearText();
        for (int index = 0; index < text.length(); index++) {
            bus.append(text.charAt(index));
        }
    }

    static int run(RomSearchBus bus, String text) {
        write(bus, text);
        return bus.execute();
    }

    static RomSearchBus busOf(int... familiesAndSerials) {
        RomSearchBus bus = new RomSearchBus();
        for (int index = 0; index + 1 < familiesAndSerials.length; index += 2) {
            bus.addDevice(familiesAndSerials[index], familiesAndSerials[index + 1]);
        }
        return bus;
    }
}
