/** Promises 20 to 22: time slots, history and family share. */
public final class StatisticsTest {
    private static final Due DUE = new Due();

    public static void main(String[] args) {
        slotsUsed();
        historyKeepsSix();
        historyForgetsAndRemembersAnew();
        familyShareBits();
        familyShareOfEveryCount();
        DUE.end();
    }

    private static void slotsUsed() {
        RomSearchBus x = Due.busOf(1, 5, 2, 5);
        DUE.is("slotsUsed() before a pass", x.slotsUsed(), 0);
        x.next();
        DUE.is("slotsUsed() of one pass", x.slotsUsed(), 48);
        x.next();
        x.next();
        DUE.is("slotsUsed(), NO_MORE uses none", x.slotsUsed(), 96);
        Due.run(x, "n;n;n;");
        DUE.is("slotsUsed() counts those of commands", x.slotsUsed(), 192);
        x.countAhead();
        DUE.is("slotsUsed(), countAhead uses none", x.slotsUsed(), 192);
        x.undo();
        DUE.is("slotsUsed() behind undo", x.slotsUsed(), 96);
    }

    private static void historyKeepsSix() {
        RomSearchBus x = Due.busOf(0, 0, 1, 31, 2, 62, 0, 93, 1, 124, 2, 155, 0, 186);
        int[] codes = {0, 27552, 13776, 25570, 47538, 63425, 12785};
        for (int pass = 0; pass < 6; pass++) {
            x.next();
            DUE.is("found(0) behind " + pass, x.found(0), 0);
            DUE.is("found(" + (pass + 1) + ") is too far", x.found(pass + 1), -2);
        }
        for (int index = 0; index < 6; index++) {
            DUE.is("found(" + index + ") of six", x.found(index), codes[index]);
        }
        DUE.is("next(), the seventh", x.next(), codes[6]);
        for (int index = 0; index < 6; index++) {
            DUE.is("found(" + index + ") of seven", x.found(index), codes[index + 1]);
        }
        for (int index : new int[] {6, -1, Integer.MIN_VALUE, Integer.MAX_VALUE}) {
            DUE.is("found(" + index + ")", x.found(index), -2);
        }
        DUE.is("errorCount(-2)", x.errorCount(-2), 10);
    }

    private static void historyForgetsAndRemembersAnew() {
        RomSearchBus x = Due.busOf(0, 0, 0, 1, 0, 2);
        x.next();
        x.next();
        int first = x.found(0);
        int second = x.found(1);
        x.resetSearch();
        DUE.is("next() finds the first again", x.next(), first);
        DUE.is("the order stays: found(0)", x.found(0), first);
        DUE.is("the order stays: found(1)", x.found(1), second);
        DUE.is("the order stays: found(2)", x.found(2), -2);
        x.undo();
        x.undo();
        x.undo();
        DUE.is("found(1) behind undo", x.found(1), -2);
        DUE.is("found(0) behind undo", x.found(0), first);
        RomSearchBus y = Due.busOf(0, 0, 1, 31, 2, 62, 0, 93, 1, 124, 2, 155, 0, 186, 1, 217);
        for (int pass = 0; pass < 10; pass++) {
            y.next();
        }
        DUE.is("forgotten and found again: found(5)", y.found(5), 0);
        DUE.is("found(0)", y.found(0), 25570);
    }

    private static void familyShareBits() {
        RomSearchBus x = new RomSearchBus();
        DUE.is("familyShareBits(0) without devices", x.familyShareBits(0), 0);
        DUE.is("familyShareBits(15) without devices", x.familyShareBits(15), 0);
        x.addDevice(1, 5);
        DUE.is("familyShareBits(1) of one", x.familyShareBits(1), Float.floatToIntBits(1.0f));
        DUE.is("familyShareBits(0) of none", x.familyShareBits(0), 0);
        x.addDevice(1, 6);
        x.addDevice(15, 6);
        DUE.is("familyShareBits(1)", x.familyShareBits(1), 1059760811);
        DUE.is("familyShareBits(15)", x.familyShareBits(15), Float.floatToIntBits(1.0f / 3.0f));
        for (int family : new int[] {-1, 16, Integer.MIN_VALUE, Integer.MAX_VALUE}) {
            DUE.is("familyShareBits(" + family + ")", x.familyShareBits(family), -2);
        }
        DUE.is("errorCount(-2)", x.errorCount(-2), 4);
    }

    private static void familyShareOfEveryCount() {
        for (int all = 1; all <= 8; all++) {
            for (int members = 0; members <= all; members++) {
                RomSearchBus x = new RomSearchBus();
                for (int device = 0; device < all; device++) {
                    x.addDevice(device < members ? 5 : 10, device);
                }
                int due = Float.floatToIntBits((float) members / (float) all);
                DUE.is("share of " + members + " in " + all, x.familyShareBits(5), due);
            }
        }
    }
}
