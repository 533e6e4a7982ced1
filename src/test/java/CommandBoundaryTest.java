/**
 * The boundary cases of the command text: the Description's "Command text" and
 * promises 23 to 26. Each method tests the sentence above it.
 */
public final class CommandBoundaryTest {
    private static final Due DUE = new Due();
    private static final String LETTERS = "dxvlmrnk";
    private static final String DIGITS = "0123456789";
    private static final int NONE = -1;
    /** The places of a number, with what stands before and behind it. */
    private static final String[][] UNSIGNED = {{"d", " 5;"}, {"d1 ", ";"}, {"x", ";"}, {"v", " 5;"},
        {"l", " 1 5;"}, {"l0 ", " 5;"}, {"m", ";"}};
    private static final String[][] SIGNED = {{"v0 ", ";"}, {"l0 1 ", ";"}, {"v0", ";"}, {"l0 1", ";"}};

    public static void main(String[] args) {
        textOf120Bytes();
        sixtyCommands();
        everyCommandNeedsItsSemicolon();
        numberWithoutDigits();
        numberOfOneToThreeDigits();
        fourthDigit();
        minusOfAReadingOrLimit();
        minusOfNoOtherNumber();
        minusDirectlyInFront();
        spacesAnywhere();
        spacesInsideANumber();
        spaceIsByte32Alone();
        spacesWhereTheyAreRequired();
        spacesWhereTheyAreNot();
        atLeastOneCommand();
        firstByteThatCannotStand();
        everyByteInEveryPlace();
        textThatEndsTooEarly();
        appendRange();
        appendRangeIsCheckedFirst();
        appendFull();
        appendKeepsEveryByte();
        appendIsNotUndoable();
        clearTextOfEachLength();
        clearTextLeavesNoByte();
        executeOfAnEmptyText();
        executeOfEachNumberOfCommands();
        syntaxErrorExecutesNothing();
        syntaxErrorAtEachPosition();
        commandRanges();
        stopAtEachIndex();
        stopLeavesEverything();
        stopByAFullBusAndByADuplicate();
        resultsOfPassesDoNotStop();
        errorsInCommandsAreNotCounted();
        executeSavesOneState();
        executeThatDropsTheOldestState();
        stoppedExecutionSavesNoState();
        textStaysAsItIs();
        stopCauseBeforeAStop();
        stopCauseOfTheMostRecentStop();
        DUE.end();
    }

    /** The position of the syntax error that the class tells, or NONE; the devices are of no matter for it. */
    private static int errorOf(String text) {
        int answer = Due.run(new RomSearchBus(), text);
        return answer <= -10 && answer >= -130 ? -10 - answer : NONE;
    }

    private static void error(String text, int position) {
        DUE.is("\"" + text + "\"", errorOf(text), position);
    }

    private static void good(String text) {
        error(text, NONE);
    }

    // ---- Description: Command text

    /** "The text has at most 120 bytes": the hundred-and-twentieth is taken and counts. */
    private static void textOf120Bytes() {
        String text = "d1 5;" + " ".repeat(113);
        DUE.is("120 bytes with the last command at their end", Due.run(new RomSearchBus(), text + "n;"), 2);
        DUE.is("120 bytes with a wrong last one", Due.run(new RomSearchBus(), text + "nn"), -129);
        RomSearchBus x = new RomSearchBus();
        Due.write(x, text + "n");
        DUE.is("119 bytes", x.append(';'), 120);
        DUE.is("121 bytes", x.append(';'), -4);
        DUE.is("execute() of the 120", x.execute(), 2);
        DUE.is("currentRom()", x.currentRom(), 41041);
    }

    /** The most commands that 120 bytes can have are all carried out. */
    private static void sixtyCommands() {
        RomSearchBus x = Due.busOf(0, 0);
        DUE.is("60 commands", Due.run(x, "n;".repeat(60)), 60);
        DUE.is("slotsUsed() of 30 passes", x.slotsUsed(), 30 * 48);
        DUE.is("the last one was NO_MORE", x.isLastDevice(), 0);
        RomSearchBus y = Due.busOf(0, 0);
        DUE.is("59 commands", Due.run(y, "n;".repeat(59)), 59);
        DUE.is("the last one found a code", y.isLastDevice(), 1);
    }

    /** "It is a sequence of commands, each terminated by a semicolon". */
    private static void everyCommandNeedsItsSemicolon() {
        String[] commands = {"d1 5", "x0", "v0 5", "v0-5", "l0 1 5", "l0 1-5", "m0", "r", "n", "k"};
        for (String command : commands) {
            good(command + ";");
            error(command, command.length());
            error(command + "n;", command.length());
            error(command + ";;", command.length() + 1);
            error("n" + command + ";", 1);
        }
    }

    /** "A number has 1 to 3 digits": not none. A number behind one that is left out takes its place. */
    private static void numberWithoutDigits() {
        Object[][] rows = {{"d 5;", 3}, {"d1 ;", 3}, {"x;", 1}, {"v 5;", 3}, {"v0 ;", 3}, {"v0-;", 3},
            {"l 1 5;", 5}, {"l0  5;", 5}, {"l0 1 ;", 5}, {"l0 1-;", 5}, {"m;", 1}};
        for (Object[] row : rows) {
            error((String) row[0], (Integer) row[1]);
        }
        for (String letter : new String[] {"d", "x", "v", "l", "m"}) {
            error(letter + ";", 1);
            error(letter + "   ;", 4);
        }
    }

    /** "A number has 1 to 3 digits": one, two and three, zeros in front among them. */
    private static void numberOfOneToThreeDigits() {
        for (String digits : new String[] {"0", "9", "00", "10", "99", "000", "007", "100", "999"}) {
            for (String[] place : UNSIGNED) {
                good(place[0] + digits + place[1]);
            }
            for (String[] place : new String[][] {SIGNED[0], SIGNED[1]}) {
                good(place[0] + digits + place[1]);
            }
            for (String[] place : SIGNED) {
                good(place[0] + "-" + digits + place[1]);
            }
        }
    }

    /** "the fourth digit of a number is such a byte", whatever stands behind it. */
    private static void fourthDigit() {
        for (String digits : new String[] {"0000", "1000", "9999", "00000", "0007x", "1234-"}) {
            for (String[] place : UNSIGNED) {
                error(place[0] + digits + place[1], place[0].length() + 3);
            }
            for (String[] place : new String[][] {SIGNED[0], SIGNED[1]}) {
                error(place[0] + digits + place[1], place[0].length() + 3);
            }
            for (String[] place : SIGNED) {
                error(place[0] + "-" + digits + place[1], place[0].length() + 4);
            }
        }
        error("d1 1234", 6);
        error("n;m0001;", 6);
    }

    /** "a minus sign may stand directly in front of the digits of a reading or a limit", zero among them. */
    private static void minusOfAReadingOrLimit() {
        String[] texts = {"v0-1;", "v0 -1;", "v0-0;", "v0-000;", "v0-999;", "v0   -5;"};
        for (String text : texts) {
            good(text);
        }
        good("l0 1-1;");
        good("l0 1 -0;");
        good("l0 1-999;");
        RomSearchBus x = Due.busOf(3, 7);
        DUE.is("a reading of -999", Due.run(x, "v0-999;l0 2-998;"), 2);
        DUE.is("it is below -998", x.alarmedDevices(), 1);
        DUE.is("a limit of -999", Due.run(x, "l0 2-999;"), 1);
        DUE.is("it is not below -999", x.alarmedDevices(), 0);
        RomSearchBus zero = Due.busOf(3, 7);
        DUE.is("-0 is 0", Due.run(zero, "v0-0;l0 1-0;"), 2);
        RomSearchBus plain = Due.busOf(3, 7);
        Due.run(plain, "v0 0;l0 1 0;");
        zero.clearText();
        plain.clearText();
        DUE.is("digest() with -0", zero.digest(), plain.digest());
    }

    /** ".. but of no other number". */
    private static void minusOfNoOtherNumber() {
        for (String[] place : UNSIGNED) {
            error(place[0] + "-1" + place[1], place[0].length());
            error(place[0] + "-", place[0].length());
            error(place[0].trim() + "-1" + place[1], place[0].trim().length());
        }
        for (String letter : new String[] {"r", "n", "k"}) {
            error(letter + "-1;", 1);
        }
        error("-1;", 0);
        error("n;-", 2);
    }

    /** "directly in front of the digits": no space, no second sign, no sign behind them, no plus. */
    private static void minusDirectlyInFront() {
        for (String[] place : SIGNED) {
            int sign = place[0].length();
            error(place[0] + "- 1" + place[1], sign + 1);
            error(place[0] + "--1" + place[1], sign + 1);
            error(place[0] + "-" + place[1], sign + 1);
            error(place[0] + "-", sign + 1);
            error(place[0] + "-1-" + place[1], sign + 2);
            error(place[0] + "-1 -" + place[1], sign + 3);
            error(place[0] + "+1" + place[1], sign);
        }
        error("v0 1-;", 4);
        error("v0 1 -;", 5);
        error("l0 1 1-1;", 6);
    }

    /** "Spaces (byte 32) may stand anywhere except inside a number": at each such place, one and many. */
    private static void spacesAnywhere() {
        String[][] texts = {{"d", "12", " ", "5", ";"}, {"x", "12", ";"}, {"v", "12", "-34", ";"},
            {"v", "12", " ", "34", ";"}, {"l", "12", " ", "3", "-45", ";"}, {"l", "1", " ", "2", " ", "345", ";"},
            {"m", "1", ";"}, {"r", ";"}, {"n", ";", "k", ";"}, {"n", ";", "x", "999", ";", "r", ";"}};
        for (String[] parts : texts) {
            for (int place = 0; place <= parts.length; place++) {
                good(joined(parts, place, " "));
                good(joined(parts, place, " ".repeat(80)));
            }
            good(" " + String.join(" ", parts) + " ");
        }
    }

    private static String joined(String[] parts, int place, String spaces) {
        StringBuilder text = new StringBuilder();
        for (int index = 0; index <= parts.length; index++) {
            text.append(index == place ? spaces : "");
            text.append(index < parts.length ? parts[index] : "");
        }
        return text.toString();
    }

    /** ".. except inside a number (the minus sign belongs to the number)". */
    private static void spacesInsideANumber() {
        error("x1 2;", 3);
        error("x1 23;", 3);
        error("m0 1;", 3);
        error("d1 2 3;", 5);
        error("v0 1 2;", 5);
        error("v0-1 2;", 5);
        error("v0- 12;", 3);
        error("v0 - 12;", 4);
        error("l0 1 2 3;", 7);
        error("l0 1-2 3;", 7);
        error("l0 1- 23;", 5);
        DUE.is("\"l1 2 3;\" has three numbers", Due.run(Due.busOf(0, 0, 0, 1), "l1 2 3;"), 1);
    }

    /** "Spaces (byte 32)": no other byte is one. */
    private static void spaceIsByte32Alone() {
        for (int value = 0; value <= 127; value++) {
            if (value == ' ') {
                good(" n;");
                good("n ;");
                good("d1 5;");
                continue;
            }
            error((char) value + "n;", LETTERS.indexOf(value) >= 0 ? 1 : 0);
            error("n" + (char) value + ";", value == ';' ? 2 : 1);
            error("d1" + (char) value + "5;", DIGITS.indexOf(value) >= 0 ? 4 : 2);
        }
    }

    /** "they are required only between two numbers of which the second has no minus sign". */
    private static void spacesWhereTheyAreRequired() {
        error("d15;", 3);
        error("d155;", 4);
        error("d1555;", 4);
        error("v05;", 3);
        error("l015;", 4);
        error("l0 15;", 5);
        error("l01 5;", 5);
        error("l01-5;", 3);
        RomSearchBus x = new RomSearchBus();
        DUE.is("\"d1 5;\"", Due.run(x, "d1 5;"), 1);
        DUE.is("family 1, serial number 5", x.romCode(0), 41041);
    }

    /** "required only ..": nowhere else, so a text without any other space is good. */
    private static void spacesWhereTheyAreNot() {
        RomSearchBus x = new RomSearchBus();
        DUE.is("no other space", Due.run(x, "d1 5;d1 6;v0-7;v1 8;l0 2-6;l1 1 7;m1;n;k;r;x0;"), 11);
        DUE.is("romCode(0)", x.romCode(0), 12385);
        DUE.is("alarmedDevices()", x.alarmedDevices(), 1);
    }

    /** "The text must contain at least one command". */
    private static void atLeastOneCommand() {
        for (int length = 0; length <= 120; length++) {
            error(" ".repeat(length), length);
        }
        error(";", 0);
        error("  ;", 2);
    }

    /** "The syntax error position is the index of the first byte that cannot stand where it stands". */
    private static void firstByteThatCannotStand() {
        error("q", 0);
        error("D1 5;", 0);
        error("q;q;", 0);
        error("n;q;q;", 2);
        error("n;d1 5;l0 1 q;q;", 12);
        error("n,n;", 1);
        error("nn;", 1);
        error("n1;", 1);
        error("x0x0;", 2);
        error("d1,5;", 2);
    }

    /** What can stand behind a beginning of a text: every other byte is the error, at its own index. */
    private static void everyByteInEveryPlace() {
        String[][] rows = {
            {"", LETTERS + " "}, {" ", LETTERS + " "}, {"n;", LETTERS + " "}, {"n; ", LETTERS + " "},
            {"n", " ;"}, {"n ", " ;"}, {"r", " ;"}, {"k", " ;"},
            {"d", DIGITS + " "}, {"d ", DIGITS + " "}, {"d1", DIGITS + " "}, {"d12", DIGITS + " "},
            {"d123", " "}, {"d1 ", DIGITS + " "}, {"d1 5", DIGITS + " ;"}, {"d1 55", DIGITS + " ;"},
            {"d1 555", " ;"}, {"d1 5 ", " ;"},
            {"x", DIGITS + " "}, {"x0", DIGITS + " ;"}, {"x000", " ;"}, {"x0 ", " ;"},
            {"m", DIGITS + " "}, {"m0", DIGITS + " ;"}, {"m000", " ;"}, {"m0 ", " ;"},
            {"v", DIGITS + " "}, {"v0", DIGITS + " -"}, {"v000", " -"}, {"v0 ", DIGITS + " -"},
            {"v0 1", DIGITS + " ;"}, {"v0 111", " ;"}, {"v0-", DIGITS}, {"v0-1", DIGITS + " ;"},
            {"v0-11", DIGITS + " ;"}, {"v0-111", " ;"}, {"v0-1 ", " ;"},
            {"l", DIGITS + " "}, {"l0", DIGITS + " "}, {"l000", " "}, {"l0 ", DIGITS + " "},
            {"l0 1", DIGITS + " -"}, {"l0 001", " -"}, {"l0 1 ", DIGITS + " -"}, {"l0 1 1", DIGITS + " ;"},
            {"l0 1-", DIGITS}, {"l0 1-1", DIGITS + " ;"}, {"l0 1-111", " ;"}, {"l0 1-1 ", " ;"}};
        for (String[] row : rows) {
            for (int value = 0; value <= 127; value++) {
                String text = row[0] + (char) value;
                boolean stands = row[1].indexOf(value) >= 0;
                boolean whole = value == ';' || value == ' ' && row[0].trim().endsWith(";");
                int due = !stands ? row[0].length() : whole ? NONE : text.length();
                DUE.is("\"" + row[0] + "\" and byte " + value, errorOf(text), due);
            }
        }
    }

    /** ".. or the length of the text if the text ends too early": each beginning of each command. */
    private static void textThatEndsTooEarly() {
        String[] commands = {"d 12 255 ;", "x 7 ;", "v 3 -999 ;", "v3-9;", "l 1 2 -345 ;", "l1 2 345;", "m 1 ;", "r ;", "n ;", "k ;"};
        for (String command : commands) {
            for (int length = 0; length < command.length(); length++) {
                error(command.substring(0, length), length);
                if (length > 0) {
                    error("n;" + command.substring(0, length), 2 + length);
                }
            }
            good(command);
        }
    }

    // ---- Promise 23

    /** "value: the byte, 0 to 127" and "OUT_OF_RANGE if value is out of range". */
    private static void appendRange() {
        Ranges.argument(DUE, "append", 0, 0, 127, 0);
    }

    /** "OUT_OF_RANGE .. (checked first)": also if the text is full. */
    private static void appendRangeIsCheckedFirst() {
        for (int value : new int[] {-1, 128, Integer.MIN_VALUE, Integer.MAX_VALUE}) {
            Ranges.refused(DUE, Fixture.FULL, -2, "append", value);
        }
    }

    /** "FULL if the text has 120 bytes". */
    private static void appendFull() {
        for (int value : new int[] {0, 32, 127}) {
            Ranges.refused(DUE, Fixture.FULL, -4, "append", value);
        }
        RomSearchBus x = new RomSearchBus();
        for (int length = 1; length <= 120; length++) {
            DUE.is("append(59)", x.append(59), length);
        }
        DUE.is("append(59) to 120 bytes", x.append(59), -4);
        DUE.is("the text has 120", x.clearText(), 120);
        DUE.is("append(59) to the emptied text", x.append(59), 1);
    }

    /** "Appends a byte": the lowest and the highest one stand in the text, and no low bits of one refused. */
    private static void appendKeepsEveryByte() {
        error("n;" + (char) 0, 2);
        error("n;" + (char) 127, 2);
        RomSearchBus x = new RomSearchBus();
        x.append('n');
        DUE.is("append(187), a semicolon but for bit 7", x.append(187), -2);
        DUE.is("append(315), a semicolon but for bit 8", x.append(315), -2);
        DUE.is("append(-69), a semicolon in its low bits", x.append(-69), -2);
        DUE.is("execute()", x.execute(), -11);
        DUE.is("append(59)", x.append(59), 2);
        DUE.is("execute()", x.execute(), 1);
    }

    /** Neither append nor clearText is undoable: they save no state, and undo leaves the text. */
    private static void appendIsNotUndoable() {
        RomSearchBus x = new RomSearchBus();
        x.append('n');
        DUE.is("undo() behind append", x.undo(), -9);
        DUE.is("clearText()", x.clearText(), 1);
        DUE.is("undo() behind clearText", x.undo(), -9);
        DUE.is("the text is empty still", x.clearText(), 0);
    }

    // ---- Promise 24

    /** "Returns the length that the text had": 0 of an empty one, 120 of a full one. */
    private static void clearTextOfEachLength() {
        for (int length = 0; length <= 120; length++) {
            RomSearchBus x = new RomSearchBus();
            Due.write(x, "n".repeat(length));
            DUE.is("clearText() of " + length, x.clearText(), length);
            DUE.is("clearText() again", x.clearText(), 0);
        }
    }

    /** "Empties the command text": what stood there is not read again. */
    private static void clearTextLeavesNoByte() {
        RomSearchBus x = new RomSearchBus();
        Due.write(x, "n;n;n;");
        x.execute();
        x.clearText();
        DUE.is("execute() of the emptied text", x.execute(), -10);
        x.append('n');
        DUE.is("execute() of one byte", x.execute(), -11);
        x.append(';');
        DUE.is("execute() of one command", x.execute(), 1);
    }

    // ---- Promise 25

    /** "The text must contain at least one command": an empty text has its error at 0, and saves no state. */
    private static void executeOfAnEmptyText() {
        RomSearchBus x = new RomSearchBus();
        DUE.is("execute()", x.execute(), -10);
        DUE.is("undo()", x.undo(), -9);
    }

    /** "Returns the number of commands": from 1 to 60. */
    private static void executeOfEachNumberOfCommands() {
        for (int commands = 1; commands <= 60; commands++) {
            DUE.is(commands + " commands", Due.run(new RomSearchBus(), "r;".repeat(commands)), commands);
        }
    }

    /** "First the whole text is parsed; if it has a syntax error, nothing is executed", nor counted, nor saved. */
    private static void syntaxErrorExecutesNothing() {
        String[] texts = {"", " ", "d9 9;n;x0;m0;q", "x9;q", "n", "d1 5;d1 5;d1 5"};
        for (String text : texts) {
            for (Fixture fixture : Fixture.values()) {
                RomSearchBus x = fixture.make();
                RomSearchBus y = fixture.make();
                Due.write(x, text);
                Due.write(y, text);
                DUE.is("\"" + text + "\"", x.execute(), -10 - text.length() + (text.endsWith("q") ? 1 : 0));
                Twins.alike(DUE, fixture + ": \"" + text + "\"", x, y);
            }
        }
    }

    /** "-10 minus the syntax error position": from 0 to 120. */
    private static void syntaxErrorAtEachPosition() {
        for (int position = 0; position < 120; position++) {
            DUE.is("q at " + position, Due.run(new RomSearchBus(), " ".repeat(position) + "q"), -10 - position);
        }
        DUE.is("the end of a full text", Due.run(new RomSearchBus(), " ".repeat(119) + "n"), -130);
        DUE.is("the end of a full text", Due.run(new RomSearchBus(), "n;".repeat(59) + "x0"), -130);
    }

    /** "as addDevice", "as removeDevice" ..: the ranges of the numbers are those of the calls, one by one. */
    private static void commandRanges() {
        Object[][] rows = {
            {"d0 0;", 1}, {"d15 255;", 1}, {"d16 0;", -1000}, {"d0 256;", -1000}, {"d999 999;", -1000},
            {"x0;", 1}, {"x1;", 1}, {"x2;", -1000}, {"x999;", -1000},
            {"v0 999;", 1}, {"v1-999;", 1}, {"v2 0;", -1000}, {"v999-999;", -1000},
            {"l0 0 999;", 1}, {"l1 3-999;", 1}, {"l2 0 0;", -1000}, {"l0 4 0;", -1000}, {"l0 999 0;", -1000},
            {"m0;", 1}, {"m1;", 1}, {"m2;", -1000}, {"m999;", -1000}};
        for (Object[] row : rows) {
            RomSearchBus x = Due.busOf(1, 5, 1, 6);
            DUE.is("\"" + row[0] + "\"", Due.run(x, (String) row[0]), (Integer) row[1]);
            DUE.is("\"" + row[0] + "\": stopCause()", x.stopCause(), (Integer) row[1] == 1 ? 0 : -2);
        }
    }

    /** "-1000 minus the index of the command (0 for the first) that stopped the execution": to the last that fits. */
    private static void stopAtEachIndex() {
        for (int index = 0; index <= 58; index++) {
            DUE.is("the stop at " + index, Due.run(new RomSearchBus(), "r;".repeat(index) + "x0;"), -1000 - index);
        }
        DUE.is("the last of 120 bytes", Due.run(new RomSearchBus(), "r;".repeat(58) + "x 0;"), -1058);
        DUE.is("the first of two that could stop", Due.run(new RomSearchBus(), "r;m2;x0;"), -1001);
    }

    /** "the execution stops and everything becomes as it was before the call": but for stopCause, here the same before. */
    private static void stopLeavesEverything() {
        String[] texts = {"x9;", "d3 3;v0 9;l0 1 0;n;m1;n;k;x0;r;x9;n;", "n;n;n;m2;", "r;d16 0;", "k;k;n;x99;"};
        for (String text : texts) {
            for (Fixture fixture : new Fixture[] {Fixture.NEW, Fixture.BUSY, Fixture.CALM}) {
                RomSearchBus x = stoppedBefore(fixture);
                RomSearchBus y = stoppedBefore(fixture);
                Due.write(x, text);
                Due.write(y, text);
                DUE.holds(fixture + ": \"" + text + "\"", x.execute() <= -1000);
                Twins.alike(DUE, fixture + ": \"" + text + "\" leaves all", x, y);
            }
        }
    }

    /** What a stop could spoil is set behind the stop that both twins have. */
    private static RomSearchBus stoppedBefore(Fixture fixture) {
        RomSearchBus bus = fixture.make();
        DUE.is("a stop with OUT_OF_RANGE", Due.run(bus, "m9;"), -1000);
        bus.targetFamily(3);
        bus.setNoise(31);
        return bus;
    }

    /** "If a command returns OUT_OF_RANGE, DUPLICATE or FULL": in the order in which addDevice checks them. */
    private static void stopByAFullBusAndByADuplicate() {
        Object[][] rows = {{"n;d15 255;", -1001, -4}, {"n;d0 0;", -1001, -3}, {"n;d16 0;", -1001, -2},
            {"x7;d15 255;d15 254;", -1002, -4}, {"x0;d0 0;d0 0;", -1002, -3}};
        for (Object[] row : rows) {
            RomSearchBus x = Fixture.FULL.make();
            int first = x.romCode(0);
            int slots = x.slotsUsed();
            DUE.is("\"" + row[0] + "\"", Due.run(x, (String) row[0]), (Integer) row[1]);
            DUE.is("\"" + row[0] + "\": stopCause()", x.stopCause(), (Integer) row[2]);
            DUE.is("\"" + row[0] + "\": deviceCount()", x.deviceCount(), 8);
            DUE.is("\"" + row[0] + "\": romCode(0)", x.romCode(0), first);
            DUE.is("\"" + row[0] + "\": slotsUsed()", x.slotsUsed(), slots);
        }
    }

    /** "the results of \"n\" never stop the execution": each of the four, and what is behind it is carried out. */
    private static void resultsOfPassesDoNotStop() {
        RomSearchBus presence = new RomSearchBus();
        DUE.is("NO_PRESENCE", Due.run(presence, "n;d1 5;"), 2);
        DUE.is("behind NO_PRESENCE", presence.deviceCount(), 1);
        RomSearchBus more = Due.busOf(1, 5);
        DUE.is("NO_MORE", Due.run(more, "n;n;d1 6;"), 3);
        DUE.is("behind NO_MORE", more.deviceCount(), 2);
        DUE.is("NO_MORE resets", more.currentRom(), 0);
        RomSearchBus device = Due.busOf(1, 5);
        DUE.is("NO_DEVICE", Due.run(device, "m1;n;d1 6;"), 3);
        DUE.is("behind NO_DEVICE", device.deviceCount(), 2);
        DUE.is("the slots of NO_DEVICE", device.slotsUsed(), 2);
        RomSearchBus crc = Due.busOf(1, 5);
        crc.setNoise(30);
        DUE.is("CRC_ERROR", Due.run(crc, "n;d1 6;"), 2);
        DUE.is("behind CRC_ERROR", crc.deviceCount(), 2);
        DUE.is("the slots of CRC_ERROR", crc.slotsUsed(), 48);
    }

    /** "Errors inside commands of the command text are not counted" and "These results are not counted as errors". */
    private static void errorsInCommandsAreNotCounted() {
        RomSearchBus x = new RomSearchBus();
        String[] texts = {"n;", "d1 5;n;n;", "m1;n;m0;", "x9;", "d1 5;", "q", "",
            "d0 0;d0 1;d0 2;d0 3;d0 4;d0 5;d0 6;d0 7;"};
        for (String text : texts) {
            Due.run(x, text);
        }
        x.setNoise(30);
        DUE.is("CRC_ERROR in a command", Due.run(x, "r;n;"), 2);
        DUE.is("found(1) is OUT_OF_RANGE, a call", x.found(1), -2);
        for (int code = -9; code <= -2; code++) {
            DUE.is("errorCount(" + code + ")", x.errorCount(code), code == -2 ? 1 : 0);
        }
    }

    /** "it saves one state for all commands, and the commands save no states of their own". */
    private static void executeSavesOneState() {
        String[] texts = {"r;", "d3 3;v0 9;l0 1 0;n;m1;n;k;r;x0;", "n;".repeat(60)};
        for (String text : texts) {
            RomSearchBus x = Fixture.CALM.make();
            RomSearchBus y = Fixture.CALM.make();
            Due.write(x, text);
            Due.write(y, text);
            DUE.holds("\"" + text + "\" is executed", x.execute() > 0);
            DUE.is("undo() of \"" + text + "\"", x.undo(), 1);
            Twins.alike(DUE, "undo of \"" + text + "\"", x, y);
        }
    }

    /** "at most 5 states are saved, and the oldest is dropped first": by an execution, too. */
    private static void executeThatDropsTheOldestState() {
        RomSearchBus x = new RomSearchBus();
        for (int serial = 0; serial < 5; serial++) {
            x.addDevice(0, serial);
        }
        DUE.is("execute()", Due.run(x, "x0;x0;"), 2);
        for (int left = 4; left >= 0; left--) {
            DUE.is("undo()", x.undo(), left);
            DUE.is("deviceCount()", x.deviceCount(), left + 1);
        }
        DUE.is("undo()", x.undo(), -9);
    }

    /** "Undoable if all commands were executed". */
    private static void stoppedExecutionSavesNoState() {
        RomSearchBus x = new RomSearchBus();
        DUE.is("execute()", Due.run(x, "d1 5;x1;"), -1001);
        DUE.is("undo()", x.undo(), -9);
        RomSearchBus y = Due.busOf(1, 5, 1, 6);
        DUE.is("execute()", Due.run(y, "d1 7;d1 5;"), -1001);
        DUE.is("undo()", y.undo(), 1);
        DUE.is("deviceCount()", y.deviceCount(), 1);
    }

    /** "The text stays as it is", whatever the execution answers, and more bytes can follow it. */
    private static void textStaysAsItIs() {
        RomSearchBus x = new RomSearchBus();
        DUE.is("d1 5;", Due.run(x, "d1 5;"), 1);
        DUE.is("again, a duplicate", x.execute(), -1000);
        DUE.is("append(110)", x.append('n'), 6);
        DUE.is("a syntax error", x.execute(), -16);
        DUE.is("append(59)", x.append(';'), 7);
        DUE.is("a duplicate again", x.execute(), -1000);
        x.removeDevice(0);
        DUE.is("executed", x.execute(), 2);
        DUE.is("clearText()", x.clearText(), 7);
    }

    // ---- Promise 26

    /** "0 if no execution has been stopped yet": refused calls, syntax errors and good texts are no stops. */
    private static void stopCauseBeforeAStop() {
        RomSearchBus x = new RomSearchBus();
        DUE.is("stopCause() of a new object", x.stopCause(), 0);
        x.execute();
        DUE.is("stopCause() behind a syntax error", x.stopCause(), 0);
        x.removeDevice(0);
        DUE.is("stopCause() behind a refused call", x.stopCause(), 0);
        Due.run(x, "n;");
        DUE.is("stopCause() behind a pass that found nothing", x.stopCause(), 0);
    }

    /** "the error code of the command that stopped the most recent execution that was stopped". */
    private static void stopCauseOfTheMostRecentStop() {
        RomSearchBus x = Fixture.FULL.make();
        Object[][] rows = {{"d15 255;", -4}, {"d0 0;", -3}, {"x8;", -2}, {"d0 0;", -3}, {"d15 255;", -4}};
        for (Object[] row : rows) {
            Due.run(x, (String) row[0]);
            DUE.is("stopCause() of \"" + row[0] + "\"", x.stopCause(), (Integer) row[1]);
            Due.run(x, "r;");
            DUE.is("stopCause() behind a good text", x.stopCause(), (Integer) row[1]);
            Due.run(x, "r");
            DUE.is("stopCause() behind a syntax error", x.stopCause(), (Integer) row[1]);
            x.undo();
            DUE.is("stopCause() behind undo", x.stopCause(), (Integer) row[1]);
        }
    }
}
