/** Promises 23 to 26: the command text, its execution and what stopped it. */
public final class CommandTest {
    private static final Due DUE = new Due();
    private static final String SIGNS = "dlvxn0-; 1q";

    public static void main(String[] args) {
        append();
        appendUpToTheLimit();
        clearText();
        everyCommand();
        spacesAndSigns();
        syntaxErrors();
        everyShortText();
        everyByteInPlace();
        syntaxErrorChangesNothing();
        stoppedExecution();
        stoppedByEachCause();
        foundNothingDoesNotStop();
        executionSavesOneState();
        stopCause();
        longTexts();
        DUE.end();
    }

    private static void append() {
        RomSearchBus x = new RomSearchBus();
        DUE.is("append(0)", x.append(0), 1);
        DUE.is("append(127)", x.append(127), 2);
        for (int value : new int[] {-1, 128, 256, Integer.MIN_VALUE, Integer.MAX_VALUE}) {
            DUE.is("append(" + value + ")", x.append(value), -2);
        }
        DUE.is("errorCount(-2)", x.errorCount(-2), 5);
        DUE.is("append(32) behind refused ones", x.append(32), 3);
        DUE.is("append saves no state: undo()", x.undo(), -9);
    }

    private static void appendUpToTheLimit() {
        RomSearchBus x = new RomSearchBus();
        for (int length = 1; length <= 120; length++) {
            DUE.is("append(32)", x.append(32), length);
        }
        DUE.is("append(32) to a full text", x.append(32), -4);
        DUE.is("append(128) to a full text", x.append(128), -2);
        DUE.is("errorCount(-4)", x.errorCount(-4), 1);
        DUE.is("errorCount(-2)", x.errorCount(-2), 1);
        DUE.is("execute() of 120 spaces", x.execute(), -130);
        DUE.is("clearText()", x.clearText(), 120);
        DUE.is("append(110) behind it", x.append(110), 1);
    }

    private static void clearText() {
        RomSearchBus x = new RomSearchBus();
        DUE.is("clearText() of none", x.clearText(), 0);
        Due.write(x, "n;n;");
        DUE.is("execute()", x.execute(), 2);
        DUE.is("clearText(): the text stayed", x.clearText(), 4);
        DUE.is("clearText() again", x.clearText(), 0);
        DUE.is("execute() of the empty text", x.execute(), -10);
        DUE.is("undo(): only execute() saved", x.undo(), 0);
        DUE.is("undo does not bring the text back", x.clearText(), 0);
    }

    private static void everyCommand() {
        RomSearchBus x = new RomSearchBus();
        DUE.is("d", Due.run(x, "d1 5;d1 6;d2 5;"), 3);
        DUE.is("d: romCode(2)", x.romCode(2), 45138);
        DUE.is("v and l", Due.run(x, "v1 -7;l1 3 6;"), 2);
        DUE.is("v and l: alarmedDevices()", x.alarmedDevices(), 2);
        DUE.is("l with rule 2", Due.run(x, "l 2 2 1;"), 1);
        DUE.is("l: alarmedDevices()", x.alarmedDevices(), 6);
        DUE.is("m and n", Due.run(x, "m1;n;"), 2);
        DUE.is("m and n: currentRom()", x.currentRom(), 45138);
        DUE.is("n: slotsUsed()", x.slotsUsed(), 48);
        DUE.is("n: found(0)", x.found(0), 45138);
        DUE.is("k", Due.run(x, "k;"), 1);
        DUE.is("k: lastFamilyDiscrepancy()", x.lastFamilyDiscrepancy(), -1);
        DUE.is("k: lastDiscrepancy()", x.lastDiscrepancy(), 0);
        DUE.is("r", Due.run(x, "r;"), 1);
        DUE.is("r: currentRom()", x.currentRom(), 0);
        DUE.is("r: lastDiscrepancy()", x.lastDiscrepancy(), -1);
        DUE.is("x", Due.run(x, "x0;"), 1);
        DUE.is("x: romCode(0)", x.romCode(0), 12385);
        DUE.is("the mode that m set", x.setMode(0), 1);
    }

    private static void spacesAndSigns() {
        String[] good = {"n;", " n;", "n ;", "n; ", "  n  ;  n  ;  ", "d1 5;", "d 1 5 ;", "d   1   5;",
            "d001 005;", "d15 255;"};
        for (String text : good) {
            int commands = text.indexOf(';') == text.lastIndexOf(';') ? 1 : 2;
            DUE.is("\"" + text + "\"", Due.run(new RomSearchBus(), text), commands);
        }
        String[] measured = {"v0-7;", "v0 -7;", "v 0  -007 ;", "v000-7;"};
        for (String text : measured) {
            RomSearchBus x = Due.busOf(1, 5);
            x.setAlarm(0, 2, -6);
            DUE.is("\"" + text + "\"", Due.run(x, text), 1);
            DUE.is("\"" + text + "\" alarms", x.alarmedDevices(), 1);
        }
        String[] limited = {"l0 1-3;", "l0 1 -3;", "l 000 001-003 ;"};
        for (String text : limited) {
            RomSearchBus x = Due.busOf(1, 5);
            x.setReading(0, -2);
            DUE.is("\"" + text + "\"", Due.run(x, text), 1);
            DUE.is("\"" + text + "\" alarms", x.alarmedDevices(), 1);
            DUE.is("\"" + text + "\" has the limit", x.setReading(0, -3), 0);
        }
        DUE.is("\"v0 -0;\"", Due.run(Due.busOf(1, 5), "v0 -0;"), 1);
        DUE.is("\"v0 999;v0-999;\"", Due.run(Due.busOf(1, 5), "v0 999;v0-999;"), 2);
    }

    private static void syntaxErrors() {
        Object[][] rows = {
            {"", 0}, {" ", 1}, {";", 0}, {"n", 1}, {"n ", 2}, {"n;;", 2}, {"n; ;", 3}, {"n;n", 3},
            {"n n;", 2}, {"n1;", 1}, {"q;", 0}, {"N;", 0}, {"n;q", 2}, {"nn;", 1},
            {"d", 1}, {"d;", 1}, {"d ;", 2}, {"d1", 2}, {"d1 ", 3}, {"d1;", 2}, {"d1 5", 4},
            {"d1 5 ", 5}, {"d1 5 6;", 5}, {"d15;", 3}, {"d1234 5;", 4}, {"d1 1234;", 6},
            {"d-1 5;", 1}, {"d1 -5;", 3}, {"d1-5;", 2}, {"d1 5-", 4}, {"d1x;", 2},
            {"x-0;", 1}, {"x0 0;", 3}, {"x;", 1}, {"m-1;", 1}, {"m;", 1}, {"m1000;", 4},
            {"v-0 5;", 1}, {"v0;", 2}, {"v0 - 5;", 4}, {"v0--5;", 3}, {"v0-;", 3}, {"v0-", 3},
            {"v0 -5-", 5}, {"v0 5-3;", 4}, {"v0-1234;", 6}, {"v0 5 5;", 5}, {"v0+5;", 2},
            {"l0 1;", 4}, {"l0 -1 3;", 3}, {"l0-1 3;", 2}, {"l-0 1 3;", 1}, {"l0 1 3 4;", 7},
            {"l0 1 - 3;", 6}, {"l0 1 1000;", 8}, {"l0 1-1000;", 8}, {"l01;", 3}, {"r0;", 1},
            {"k-1;", 1}, {"d1 5;n", 6}, {"d1 5; n;d1 6;d", 14}};
        for (Object[] row : rows) {
            String text = (String) row[0];
            int position = (Integer) row[1];
            DUE.is("\"" + text + "\"", Due.run(new RomSearchBus(), text), -10 - position);
            DUE.is("the model's \"" + text + "\"", Model.syntaxError(text), position);
        }
    }

    /** All texts of up to five signs from a few that matter, against the model. */
    private static void everyShortText() {
        int texts = 1;
        for (int length = 1; length <= 5; length++) {
            texts *= SIGNS.length();
            for (int number = 0; number < texts; number++) {
                String text = textOf(number, length);
                DUE.is("\"" + text + "\"", errorOf(text), Model.syntaxError(text));
            }
        }
    }

    private static String textOf(int number, int length) {
        StringBuilder text = new StringBuilder();
        int rest = number;
        for (int index = 0; index < length; index++) {
            text.append(SIGNS.charAt(rest % SIGNS.length()));
            rest /= SIGNS.length();
        }
        return text.toString();
    }

    private static void everyByteInPlace() {
        String[] frames = {"", "n", "n;", "d", "d1", "d1 ", "d123", "v0", "v0-", "v0-1", "l0 1", "l0 1 "};
        for (String frame : frames) {
            for (int value = 0; value <= 127; value++) {
                String text = frame + (char) value;
                DUE.is("\"" + frame + "\" and byte " + value, errorOf(text), Model.syntaxError(text));
            }
        }
    }

    /** The syntax error position that the class tells, -1 if it tells none. */
    private static int errorOf(String text) {
        int answer = Due.run(new RomSearchBus(), text);
        return answer <= -10 && answer > -1000 ? -10 - answer : -1;
    }

    private static void syntaxErrorChangesNothing() {
        RomSearchBus x = Due.busOf(1, 5);
        Due.write(x, "d1 6;n;n");
        long digest = x.digest();
        DUE.is("execute()", x.execute(), -18);
        DUE.is("digest() behind a syntax error", x.digest(), digest);
        DUE.is("stopCause() behind a syntax error", x.stopCause(), 0);
    }

    private static void stoppedExecution() {
        RomSearchBus x = searchedBus();
        DUE.is("execute()", Due.run(x, "d3 3;v0 9;l0 1 0;n;m1;n;k;x0;r;x9;n;"), -1009);
        DUE.is("stopCause()", x.stopCause(), -2);
        x.clearText();
        RomSearchBus y = searchedBus();
        DUE.is("execute() that only sets the same cause", Due.run(y, "x9;"), -1000);
        y.clearText();
        DUE.is("everything is as it was", x.digest(), y.digest());
        DUE.is("no error is counted", x.errorCount(-2), 0);
        DUE.is("no state was saved", x.undo(), 4);
    }

    private static RomSearchBus searchedBus() {
        RomSearchBus bus = Due.busOf(1, 5, 2, 5);
        bus.setNoise(31);
        bus.next();
        bus.setNoise(20);
        return bus;
    }

    private static void stoppedByEachCause() {
        RomSearchBus x = Due.busOf(0, 0, 0, 1, 0, 2, 0, 3, 0, 4, 0, 5, 0, 6);
        Object[][] rows = {
            {"n;d0 7;d0 8;", -1002, -4}, {"d0 3;", -1000, -3}, {"d16 0;", -1000, -2},
            {"d0 256;", -1000, -2}, {"d0 7;d0 7;", -1001, -3}, {"x7;", -1000, -2}, {"v7 0;", -1000, -2},
            {"l0 4 0;", -1000, -2}, {"l7 0 0;", -1000, -2}, {"m2;", -1000, -2}, {"r;n;k;m1;m999;", -1004, -2}};
        for (Object[] row : rows) {
            long devices = x.deviceCount();
            DUE.is("\"" + row[0] + "\"", Due.run(x, (String) row[0]), (Integer) row[1]);
            DUE.is("\"" + row[0] + "\" stopCause()", x.stopCause(), (Integer) row[2]);
            DUE.is("\"" + row[0] + "\" deviceCount()", x.deviceCount(), devices);
        }
        for (int code = -9; code <= -2; code++) {
            DUE.is("errorCount(" + code + ") behind stops", x.errorCount(code), 0);
        }
    }

    private static void foundNothingDoesNotStop() {
        RomSearchBus x = new RomSearchBus();
        DUE.is("NO_PRESENCE, NO_MORE and NO_DEVICE", Due.run(x, "n;d1 5;n;n;m1;n;k;"), 7);
        DUE.is("slotsUsed()", x.slotsUsed(), 50);
        x.setNoise(1);
        DUE.is("undo() of setNoise", x.undo(), 1);
        for (int code = -9; code <= -2; code++) {
            DUE.is("errorCount(" + code + ")", x.errorCount(code), 0);
        }
        RomSearchBus y = Due.busOf(0, 0);
        y.setNoise(31);
        y.next();
        y.setNoise(31);
        DUE.is("CRC_ERROR", Due.run(y, "n;n;"), 2);
        DUE.is("CRC_ERROR is not counted", y.errorCount(-7), 0);
        DUE.is("currentRom() behind it", y.currentRom(), 0);
        DUE.is("isLastDevice() behind it", y.isLastDevice(), 1);
    }

    private static void executionSavesOneState() {
        RomSearchBus x = Due.busOf(1, 5);
        DUE.is("execute()", Due.run(x, "d1 6;d1 7;n;n;n;x0;m1;"), 7);
        DUE.is("undo() of all commands", x.undo(), 1);
        DUE.is("deviceCount()", x.deviceCount(), 1);
        DUE.is("romCode(0)", x.romCode(0), 41041);
        DUE.is("slotsUsed()", x.slotsUsed(), 0);
        DUE.is("found(0)", x.found(0), -2);
        DUE.is("currentRom()", x.currentRom(), 0);
        DUE.is("execute() of the text that stayed", x.execute(), 7);
        for (int again = 0; again < 5; again++) {
            DUE.is("an execution that changes nothing", Due.run(x, "m1;"), 1);
        }
        DUE.is("undo(): five at the most", x.undo(), 4);
    }

    private static void stopCause() {
        RomSearchBus x = Due.busOf(1, 5);
        DUE.is("stopCause() before a stop", x.stopCause(), 0);
        Due.run(x, "d1 5;");
        DUE.is("stopCause()", x.stopCause(), -3);
        Due.run(x, "n;");
        DUE.is("stopCause() stays behind a good text", x.stopCause(), -3);
        Due.run(x, "q;");
        DUE.is("stopCause() stays behind a syntax error", x.stopCause(), -3);
        x.addDevice(16, 0);
        DUE.is("stopCause() stays behind a refused call", x.stopCause(), -3);
        Due.run(x, "x1;");
        DUE.is("stopCause() of the latest stop", x.stopCause(), -2);
        x.undo();
        DUE.is("undo leaves stopCause()", x.stopCause(), -2);
    }

    private static void longTexts() {
        DUE.is("60 commands", Due.run(new RomSearchBus(), "r;".repeat(60)), 60);
        RomSearchBus found = Due.busOf(1, 5);
        DUE.is("60 commands, the last one finds", Due.run(found, "r;".repeat(59) + "n;"), 60);
        DUE.is("found(0)", found.found(0), 41041);
        DUE.is("currentRom()", found.currentRom(), 41041);
        DUE.is("119 bytes, the last one short", Due.run(new RomSearchBus(), "r;".repeat(59) + "r"), -129);
        DUE.is("120 bytes, the last one wrong", Due.run(new RomSearchBus(), "r;".repeat(59) + "rr"), -129);
        DUE.is("120 bytes, a second semicolon", Due.run(new RomSearchBus(), "r;".repeat(59) + ";;"), -128);
        DUE.is("the 59th stops", Due.run(new RomSearchBus(), "r;".repeat(58) + "x0;"), -1058);
        DUE.is("15 commands of 8 bytes", Due.run(Due.busOf(1, 5), "l0 3-99;".repeat(15)), 15);
    }
}
