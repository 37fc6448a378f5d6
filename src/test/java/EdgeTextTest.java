/**
 * The boundary cases that the document names for promises 1 to 9: the buffer, the text and its
 * errors. Each label begins with the promise; "text" and "errors" are parts of the description.
 */
public final class EdgeTextTest {
    private static final Check check = new Check();
    private static final int SYNTAX = DrillContest.SYNTAX;
    private static final int BAD_NUMBER = DrillContest.BAD_NUMBER;
    private static final int BAD_NAME = DrillContest.BAD_NAME;
    private static final int TOO_MANY = DrillContest.TOO_MANY;
    private static final int BLANKS = 0x20202020;
    private static final String FOUR = "field 4 6;drill a 1 1;drill b 1 1;drill c 1 1;drill d 1 1;";

    public static void main(String[] args) {
        newObject();
        appendOrder();
        appendFull();
        truncateEdges();
        truncateKeepsFirstBytes();
        nothingBehindTheEnd();
        loadAnswers();
        loadStartsAnew();
        errorOfLatestLoad();
        numbersOfAllLines();
        widthsOfAllFields();
        cellsOfAllFields();
        wetCorners();
        blanks();
        words();
        names();
        fiveDrills();
        firstErrorCounts();
        textEndsTooEarly();
        bytesOutsideTheGrammar();
        lastValueCounts();
        check.close("EdgeTextTest");
    }

    private static void good(String text, int drills) {
        DrillContest x = new DrillContest();
        Check.feed(x, text);
        int got = -2;
        try {
            got = x.load();
        } catch (IllegalArgumentException e) {
            System.out.println("refused at " + x.errorOffset() + " with kind " + x.errorKind());
        }
        check.same("load of '" + text + "'", got, drills);
        check.same("errorOffset of '" + text + "'", x.errorOffset(), DrillContest.NONE);
        check.same("errorKind of '" + text + "'", x.errorKind(), 0);
    }

    private static void bad(String text, int kind, int offset) {
        DrillContest x = new DrillContest();
        Check.feed(x, text);
        check.badArgument("load of '" + text + "'", x::load);
        check.same("errorOffset of '" + text + "'", x.errorOffset(), offset);
        check.same("errorKind of '" + text + "'", x.errorKind(), kind);
    }

    // ---- promises 1 to 3: the buffer

    private static void newObject() {
        DrillContest x = new DrillContest();
        check.same("1 no drills", x.drillCount(), 0);
        check.same("1 no rows", x.rowCount(), 0);
        check.same("1 no columns", x.columnCount(), 0);
        check.same("1 empty buffer", Snapshot.bufferLength(x), 0);
        check.same("1 nothing to undo", x.undoDepth(), 0);
        check.same("1 no formatted text", x.formattedByte(0), -1);
        check.badArgument("1 the empty text", x::load);
        check.same("1 error at its end", x.errorOffset(), 0);
        check.same("1 kind of its error", x.errorKind(), SYNTAX);
        check.same("1 still no rows", x.rowCount(), 0);
    }

    private static void appendOrder() {
        // "fie" "ld1" ... : each of the 20 bytes has its place, from the first word to the fifth.
        DrillContest x = new DrillContest();
        check.same("2 length", x.append(0x6669656c, 0x64203132, 0x20323420, 0x3b747572, 0x6e20393b), 20);
        check.same("2 the bytes in turn", x.load(), 0);
        check.same("2 rows", x.rowCount(), 12);
        check.same("2 columns", x.columnCount(), 24);
        // A wrong byte in each place is found there: none of them is lost, or read as another one.
        for (int at = 0; at < 20; at++) {
            for (int wrong : new int[] {0, 127, 128, 255}) {
                int[] w = {BLANKS, BLANKS, BLANKS, BLANKS, BLANKS};
                int shift = 24 - at % 4 * 8;
                w[at / 4] = w[at / 4] & ~(255 << shift) | wrong << shift;
                DrillContest y = new DrillContest();
                y.append(w[0], w[1], w[2], w[3], w[4]);
                check.badArgument("2 byte " + wrong + " at " + at, y::load);
                check.same("2 place of byte " + wrong, y.errorOffset(), at);
            }
        }
    }

    private static void appendFull() {
        for (int before = 560; before <= 600; before++) {
            DrillContest x = new DrillContest();
            for (int k = 0; k < 30; k++) {
                x.append(BLANKS, BLANKS, BLANKS, BLANKS, BLANKS);
            }
            x.truncate(before);
            int due = before <= 580 ? before + 20 : DrillContest.NONE;
            check.same("2 append at " + before, x.append(0, 0, 0, 0, 0), due);
            check.same("2 length after it", Snapshot.bufferLength(x), due == -1 ? before : due);
            // Had a refused call appended a byte, the error would not be at the end of the blanks.
            check.badArgument("2 load", x::load);
            check.same("2 what was there stays", x.errorOffset(), before);
        }
        StringBuilder text = new StringBuilder("field 2 2;");
        while (text.length() < 594) {
            text.append(' ');
        }
        text.append("lift9;");
        DrillContest x = new DrillContest();
        Check.feed(x, text.toString());
        check.same("2 refused when full", x.append(-1, -1, -1, -1, -1), -1);
        check.same("text of 600 bytes", x.load(), 0);
        check.same("2 room again after load", x.append(0, 0, 0, 0, 0), 20);
        text.setLength(594);
        text.append(" lift9");
        bad(text.toString(), SYNTAX, 600);
    }

    private static void truncateEdges() {
        DrillContest x = new DrillContest();
        check.same("3 empty to 0", x.truncate(0), true);
        check.same("3 empty to 1", x.truncate(1), false);
        check.same("3 empty to -1", x.truncate(-1), false);
        x.append(BLANKS, BLANKS, BLANKS, BLANKS, BLANKS);
        for (int wrong : new int[] {21, 600, 601, -1, -20, Integer.MIN_VALUE, Integer.MAX_VALUE}) {
            check.same("3 refused length " + wrong, x.truncate(wrong), false);
            check.same("3 nothing changes", Snapshot.bufferLength(x), 20);
        }
        check.same("3 the current length", x.truncate(20), true);
        check.same("3 it stays", Snapshot.bufferLength(x), 20);
        check.same("3 one less", x.truncate(19), true);
        check.same("3 not back again", x.truncate(20), false);
        check.same("3 to 0", x.truncate(0), true);
        check.same("3 empty now", Snapshot.bufferLength(x), 0);
        check.same("3 append behind it", x.append(0, 0, 0, 0, 0), 20);
    }

    private static void truncateKeepsFirstBytes() {
        DrillContest x = new DrillContest();
        Check.feed(x, "field 3 4;oops");
        check.same("3 cut off the end", x.truncate(10), true);
        check.same("3 the first bytes stay", x.load(), 0);
        check.same("3 rows of the first bytes", x.rowCount(), 3);
        Check.feed(x, "field 2 9;drill");
        x.truncate(6);
        // "5 7;" and blanks stand where "2 9;drill" was.
        check.same("3 new bytes behind the first", x.append(0x3520373b, BLANKS, BLANKS, BLANKS, BLANKS), 26);
        check.same("3 load of both", x.load(), 0);
        check.same("3 rows behind the cut", x.rowCount(), 5);
        check.same("3 columns behind the cut", x.columnCount(), 7);
    }

    /** What was cut off, or loaded before, is not behind the end of the text, though it once stood there. */
    private static void nothingBehindTheEnd() {
        String text = "field 4 6;turn 1;turn 2;";
        for (int length : new int[] {9, 15, 22, 23}) {
            DrillContest x = new DrillContest();
            Check.feed(x, text);
            x.truncate(length);
            check.badArgument("3 cut at " + length, x::load);
            check.same("5 cut at " + length, x.errorOffset(), length);
            check.same("6 cut at " + length, x.errorKind(), SYNTAX);
            Check.feed(x, text);
            check.same("4 the whole text", x.load(), 0);
            x.append(0x6669656c, 0x64203420, 0x36202020, 0, 0);
            x.truncate(9);
            check.badArgument("4 a shorter text than before", x::load);
            check.same("5 a shorter text than before", x.errorOffset(), 9);
        }
        DrillContest cut = new DrillContest();
        Check.feed(cut, "field 12 24;");
        cut.truncate(7);
        cut.append(0x2039203b, BLANKS, BLANKS, BLANKS, BLANKS);
        check.same("3 a number that was cut", cut.load(), 0);
        check.same("8 its first digit", cut.rowCount(), 1);
        check.same("9 the number behind it", cut.columnCount(), 9);
    }

    // ---- promises 4 to 9: load

    private static void loadAnswers() {
        good("field 1 1;", 0);
        good("field 4 6;drill a 1 1;", 1);
        good("field 4 6;drill a 1 1;drill b 1 1;", 2);
        good("field 4 6;drill a 1 1;drill b 1 1;drill c 1 1;", 3);
        good(FOUR, 4);
        DrillContest x = Check.loaded(FOUR);
        check.same("7 drills", x.drillCount(), 4);
        check.same("8 rows", x.rowCount(), 4);
        check.same("9 columns", x.columnCount(), 6);
        check.same("4 empty afterwards", Snapshot.bufferLength(x), 0);
        x.pass(3, 1);
        x.setWidth(2, 2);
        x.format(3);
        String before = Snapshot.ofDrills(x);
        Check.feed(x, "field 2 2;stone 0 0;drill z 2 9 control;turn 0;lift 0;hand 0;clear 0;score 0 0;score 0 100;");
        check.badArgument("4 a wrong end", x::load);
        check.same("4 empty after an error", Snapshot.bufferLength(x), 0);
        check.same("4 the contest stays", Snapshot.ofDrills(x), before);
        check.same("4 the formatted text stays", Check.formatted(x), "d w1 r1 $8 18/0");
        check.same("4 undo after an error", x.undo(), 1);
        check.same("4 undone", x.width(2), 1);
        Check.feed(x, "field 3 2;");
        check.same("4 no drills", x.load(), 0);
        check.same("4 nothing to undo", x.undoDepth(), 0);
        check.same("4 undo answers NONE", x.undo(), DrillContest.NONE);
        check.same("7 drills of the new text", x.drillCount(), 0);
        check.outOfBounds("4 the old drills are gone", () -> x.width(0));
        check.same("8 rows of the new text", x.rowCount(), 3);
        check.same("9 columns of the new text", x.columnCount(), 2);
        check.same("4 the formatted text stays on success", Check.formatted(x), "d w1 r1 $8 18/0");
    }

    /** Nothing of an earlier text, right or wrong, may be seen in the next one. */
    private static void loadStartsAnew() {
        DrillContest x = Check.loaded("field 3 4;stone 0 0;wet 1 1 2 3;drill a 3 9 control;turn 1;lift 9;hand 8;clear 1;score 1 1;");
        x.clearStone(0, 0, 0);
        x.pass(0, 0);
        x.pass(0, 0);
        Check.feed(x, "field 3 4;stone 2 2;drill b 2 8 control;turn 77;lift 77;hand 77;clear 77;score 77 77;;");
        check.badArgument("4 wrong text", x::load);
        Check.feed(x, "field 3 4;stone 1 0;drill a 2 1;");
        check.same("4 right text", x.load(), 1);
        check.same("4 new field", Check.field(x, 0), "..../#.../....");
        check.same("4 new width", x.width(0), 2);
        check.same("4 new radius", x.radius(0), 1);
        check.same("4 new control", x.hasControl(0), false);
        check.same("4 cost 0 at first", x.cost(0), 0);
        check.same("4 no position at first", x.position(0), -1);
        check.same("4 no pass at first", x.passCount(0), 0);
        check.same("4 default turn", x.turnCost(0, 0, 0), 5 + 4);
        check.same("4 default lift", x.passCost(0, 0), 4 + 2);
        check.same("4 default weight of an unsown cell", x.score(0), 110);
        x.clearStone(0, 1, 0);
        check.same("4 default clear", x.cost(0), 8);
        x.handSow(0, 1, 0);
        check.same("4 default hand", x.cost(0), 11);
        x.pass(0, 0);
        check.same("4 default weight of an overlap", x.score(0), 11 + 6 + 40 + 3);
    }

    private static void errorOfLatestLoad() {
        DrillContest x = new DrillContest();
        check.same("5 no load yet", x.errorOffset(), DrillContest.NONE);
        check.same("6 no load yet", x.errorKind(), 0);
        Check.feed(x, "field 4 99;");
        check.same("5 append is no load", x.errorOffset(), DrillContest.NONE);
        check.badArgument("4 first", x::load);
        check.same("5 first error", x.errorOffset(), 8);
        check.same("6 first kind", x.errorKind(), BAD_NUMBER);
        Check.feed(x, "field 4 6");
        check.same("5 stays until the next load", x.errorOffset(), 8);
        check.same("6 stays until the next load", x.errorKind(), BAD_NUMBER);
        check.badArgument("4 second", x::load);
        check.same("5 second error", x.errorOffset(), 9);
        check.same("6 second kind", x.errorKind(), SYNTAX);
        Check.feed(x, "field 4 6;");
        check.same("4 third", x.load(), 0);
        check.same("5 none after success", x.errorOffset(), DrillContest.NONE);
        check.same("6 none after success", x.errorKind(), 0);
        check.badArgument("4 the emptied buffer", x::load);
        check.same("5 of the empty text", x.errorOffset(), 0);
        check.same("6 of the empty text", x.errorKind(), SYNTAX);
        check.same("8 rows stay", x.rowCount(), 4);
    }

    // ---- numbers

    /** A number between before and after: its least and greatest values hold, and those beyond do not. */
    private static void number(String before, String after, int least, int most) {
        int at = before.length();
        int drills = (before + after).contains("drill") ? 1 : 0;
        good(before + least + after, drills);
        good(before + most + after, drills);
        good(before + padded(least) + after, drills);
        good(before + padded(most) + after, drills);
        if (least > 0) {
            bad(before + (least - 1) + after, BAD_NUMBER, at);
        }
        bad(before + (most + 1) + after, BAD_NUMBER, at);
        bad(before + "999" + after, BAD_NUMBER, at);
        bad(before + "0" + padded(least) + after, BAD_NUMBER, at);
        bad(before + "0" + padded(most) + after, BAD_NUMBER, at);
        bad(before + "4294967296" + after, BAD_NUMBER, at);
        bad(before + "4294967297" + after, BAD_NUMBER, at);
        // A number that is out of range is wrong even where the text ends with it.
        bad(before + (most + 1), BAD_NUMBER, at);
        bad(before + "-1" + after, SYNTAX, at);
        bad(before + "+1" + after, SYNTAX, at);
        bad(before + "x" + after, SYNTAX, at);
        bad(before + ";", SYNTAX, at);
        bad(before, SYNTAX, at);
        bad(before + most, SYNTAX, at + String.valueOf(most).length());
    }

    private static String padded(int number) {
        String digits = String.valueOf(number);
        return "000".substring(digits.length()) + digits;
    }

    private static void numbersOfAllLines() {
        number("field ", " 24;", 1, 12);
        number("field 12 ", ";", 1, 24);
        number("field 5 7;stone ", " 0;", 0, 4);
        number("field 5 7;stone 0 ", ";", 0, 6);
        number("field 5 7;wet ", " 0 4 0;", 0, 4);
        number("field 5 7;wet 0 ", " 0 6;", 0, 6);
        number("field 5 7;wet 0 0 ", " 0;", 0, 4);
        number("field 5 7;wet 0 0 0 ", ";", 0, 6);
        number("field 5 7;drill a ", " 0;", 1, 5);
        number("field 12 7;drill a ", " 0;", 1, 8);
        number("field 5 7;drill a 1 ", ";", 0, 9);
        number("field 5 7;drill a 1 ", "control;", 0, 9);
        number("field 5 7;turn ", ";", 0, 99);
        number("field 5 7;lift ", ";", 0, 99);
        number("field 5 7;hand ", ";", 0, 99);
        number("field 5 7;clear ", ";", 0, 99);
        number("field 5 7;score ", " 0;", 0, 99);
        number("field 5 7;score 0 ", ";", 0, 99);
    }

    private static void widthsOfAllFields() {
        for (int rows = 1; rows <= 12; rows++) {
            String before = "field " + rows + " 1;drill a ";
            for (int width = 0; width <= 13; width++) {
                if (width >= 1 && width <= 8 && width <= rows) {
                    good(before + width + " 0;", 1);
                } else {
                    bad(before + width + " 0;", BAD_NUMBER, before.length());
                }
            }
        }
    }

    private static void cellsOfAllFields() {
        for (int rows = 1; rows <= 12; rows++) {
            String field = "field " + rows + " 24;stone ";
            good(field + (rows - 1) + " 23;", 0);
            bad(field + rows + " 23;", BAD_NUMBER, field.length());
        }
        for (int columns = 1; columns <= 24; columns++) {
            String field = "field 12 " + columns + ";stone 11 ";
            good(field + (columns - 1) + ";", 0);
            bad(field + columns + ";", BAD_NUMBER, field.length());
        }
    }

    private static void wetCorners() {
        DrillContest x = Check.loaded("field 4 5;wet 1 1 2 3;drill a 1 0;");
        check.same("text the whole rectangle", Check.field(x, 0), "...../.~~~./.~~~./.....");
        DrillContest one = Check.loaded("field 4 5;wet 2 3 2 3;drill a 1 0;");
        check.same("text the last ones are the first ones", Check.field(one, 0), "...../...../...~./.....");
        DrillContest all = Check.loaded("field 2 3;wet 0 0 1 2;drill a 1 0;");
        check.same("text the whole field", Check.field(all, 0), "~~~/~~~");
        // The last row may be less than the first column, and so on: only like is held against like.
        DrillContest wide = Check.loaded("field 2 5;wet 0 4 0 4;wet 1 0 1 0;drill a 1 0;");
        check.same("text rows and columns apart", Check.field(wide, 0), "....~/~....");
        bad("field 4 5;wet 2 2 1 4;", BAD_NUMBER, 18);
        bad("field 4 5;wet 2 2 3 1;", BAD_NUMBER, 20);
        bad("field 4 5;wet 2 2 1 1;", BAD_NUMBER, 18);
        DrillContest y = Check.loaded("field 1 4;stone 0 1;wet 0 0 0 2;stone 0 2;stone 0 1;wet 0 2 0 2;drill a 1 0;");
        check.same("text wet leaves stones, a stone takes all", Check.field(y, 0), "~##.");
    }

    // ---- blanks, words and names

    private static void blanks() {
        good(" \t\nfield\t4\n6 ;\n\tdrill \t a\n1\t1 control\n;\t", 1);
        good("field4 6;drill a1 1control;stone0 0;wet0 0 0 0;turn1;score1 1;", 1);
        good("field 4 6;drill a 1 1;\n", 1);
        // Blanks part tokens: two numbers need one, and a word with one inside is two words.
        bad("field 46;", BAD_NUMBER, 6);
        bad("field 12;", SYNTAX, 8);
        bad("fi eld 4 6;", SYNTAX, 0);
        bad("field 4 6;drill a 1 1 con trol;", SYNTAX, 22);
        bad("field 4 6;drill a b 1 1;", SYNTAX, 18);
        bad("field 4 6;turn 1 2;", SYNTAX, 17);
        for (char other : new char[] {0, 1, 8, 11, 12, 13, 31, 33, 127, 160, 255}) {
            bad("field 4 6;" + other + "turn 1;", SYNTAX, 10);
            bad("field" + other + "4 6;", SYNTAX, 5);
            bad("field 4 6" + other + ";", SYNTAX, 9);
            bad("field 4 6;drill a 1 1" + other + "control;", SYNTAX, 21);
        }
    }

    private static void words() {
        bad("fielda 4 6;", SYNTAX, 0);
        bad("afield 4 6;", SYNTAX, 0);
        bad(" \n stone 0 0;field 4 6;", SYNTAX, 3);
        bad(";field 4 6;", SYNTAX, 0);
        bad("4 6;", SYNTAX, 0);
        String[] lines = {"stone 0 0", "wet 0 0 0 0", "drill a 1 1", "turn 1", "lift 1", "hand 1", "clear 1", "score 1 1"};
        for (String line : lines) {
            int drills = line.startsWith("drill") ? 1 : 0;
            int end = line.indexOf(' ');
            good("field 4 6; " + line + " ; ", drills);
            bad("field 4 6; a" + line + ";", SYNTAX, 11);
            bad("field 4 6; " + line.substring(0, end) + "s" + line.substring(end) + ";", SYNTAX, 11);
            bad("field 4 6; " + line.substring(0, end - 1) + line.substring(end) + ";", SYNTAX, 11);
            bad("field 4 6; " + line.substring(0, end - 1) + "x" + line.substring(end) + ";", SYNTAX, 11);
            bad("field 4 6; " + (char) (line.charAt(0) - 32) + line.substring(1) + ";", SYNTAX, 11);
            bad("field 4 6; " + line + " 1;", SYNTAX, 12 + line.length());
            bad("field 4 6; " + line + " x;", SYNTAX, 12 + line.length());
            bad("field 4 6; " + line + ",", SYNTAX, 11 + line.length());
            bad("field 4 6; " + line + ";;", SYNTAX, 12 + line.length());
            bad("field 4 6; " + line, SYNTAX, 11 + line.length());
        }
        bad("field 4 6;field 4 6;", SYNTAX, 10);
        bad("field 4 6;control;", SYNTAX, 10);
        bad("field 4 6;7;", SYNTAX, 10);
        bad("field 4 6;1234;", SYNTAX, 10);
        bad("field 4 6 control;", SYNTAX, 10);
        bad("field 4 6;drill a 1 1 contro;", SYNTAX, 22);
        bad("field 4 6;drill a 1 1 control control;", SYNTAX, 30);
        bad("field 4 6;drill a 1 1 control 1;", SYNTAX, 30);
        bad("field 4 6;turn 1 control;", SYNTAX, 17);
    }

    private static void names() {
        good("field 4 6;drill z 1 1;", 1);
        good("field 4 6;drill zzzzzz 1 1;", 1);
        bad("field 4 6;drill zzzzzzz 1 1;", SYNTAX, 16);
        bad("field 4 6;drill 1 1;", SYNTAX, 16);
        bad("field 4 6;drill;", SYNTAX, 15);
        bad("field 4 6;drill A 1 1;", SYNTAX, 16);
        bad("field 4 6;drill ` 1 1;", SYNTAX, 16);
        bad("field 4 6;drill { 1 1;", SYNTAX, 16);
        bad("field 4 6;drill a{ 1 1;", SYNTAX, 17);
        String[] keywords = {"field", "stone", "wet", "drill", "turn", "lift", "hand", "clear", "score"};
        for (String keyword : keywords) {
            good("field 4 6;drill " + keyword + " 1 1 control;", 1);
            bad("field 4 6;drill " + keyword + " 1 1;drill " + keyword + " 1 1;", BAD_NAME, 27 + keyword.length());
        }
        // Different by a letter more, or by the last letter, is different.
        good("field 4 6;drill a 1 1;drill ab 1 1;drill abc 1 1;drill abd 1 1;", 4);
        good("field 4 6;drill abcdef 1 1;drill bbcdef 1 1;drill abcdeg 1 1;", 3);
        bad("field 4 6;drill abcdef 1 1;drill b 1 1;drill c 1 1;drill abcdef 1 1;", BAD_NAME, 57);
        bad("field 4 6;drill a 1 1;drill b 1 1;drill c 1 1;drill b 1 1;", BAD_NAME, 52);
        bad("field 4 6;drill a 1 1;drill b 1 1;drill c 1 1;drill c 1 1;", BAD_NAME, 52);
        bad("field 4 6;drill a 1 1;drill a", BAD_NAME, 28);
        // A name of an earlier text is free again.
        DrillContest x = Check.loaded(FOUR);
        Check.feed(x, FOUR);
        check.same("text the names of the text before", x.load(), 4);
    }

    private static void fiveDrills() {
        bad(FOUR + "drill e 1 1;", TOO_MANY, 58);
        bad(FOUR + "\n drill a 1 1;", TOO_MANY, 60);
        bad(FOUR + "drill 1;", TOO_MANY, 58);
        bad(FOUR + "drill", TOO_MANY, 58);
        bad(FOUR + "turn 1;lift 1;drill e 1 1;", TOO_MANY, 72);
        bad(FOUR + "drills", SYNTAX, 58);
        good(FOUR + "turn 1;stone 0 0;", 4);
    }

    /** Of several errors the first one counts, whatever the kinds are. */
    private static void firstErrorCounts() {
        bad("field 0 0;", BAD_NUMBER, 6);
        bad("field 4 0 oops", BAD_NUMBER, 8);
        bad("field 4 6 oops 999", SYNTAX, 10);
        bad("field 4 6;drill a 1 1;drill a 9 99;", BAD_NAME, 28);
        bad("field 4 6;drill a 9 99;drill a 1 1;", BAD_NUMBER, 18);
        bad("field 4 6;drill a 1 10;drill a 1 1;", BAD_NUMBER, 20);
        bad("field 4 6;stone 4 6;", BAD_NUMBER, 16);
        bad("field 4 6;stone 0 6;drill a 1 1;drill a 1 1;", BAD_NUMBER, 18);
        bad("field 4 6;turn 100 oops;", BAD_NUMBER, 15);
        bad("field 4 6;oops;turn 100;", SYNTAX, 10);
        bad(FOUR + "drill a 99 99 oops", TOO_MANY, 58);
    }

    private static void textEndsTooEarly() {
        bad("", SYNTAX, 0);
        bad(" ", SYNTAX, 1);
        bad("\n\t \n", SYNTAX, 4);
        bad("field", SYNTAX, 5);
        bad("field\n", SYNTAX, 6);
        bad("field 4", SYNTAX, 7);
        bad("field 4 ", SYNTAX, 8);
        bad("field 4 6", SYNTAX, 9);
        bad("field 4 6 ", SYNTAX, 10);
        bad("field 4 6;drill", SYNTAX, 15);
        bad("field 4 6;drill ", SYNTAX, 16);
        bad("field 4 6;drill a", SYNTAX, 17);
        bad("field 4 6;drill a 1", SYNTAX, 19);
        bad("field 4 6;drill a 1 1", SYNTAX, 21);
        bad("field 4 6;drill a 1 1 \n", SYNTAX, 23);
        bad("field 4 6;drill a 1 1control", SYNTAX, 28);
        bad("field 4 6;score 1", SYNTAX, 17);
        // A part of a word is a wrong word, and counts at its first byte.
        bad("f", SYNTAX, 0);
        bad("fiel", SYNTAX, 0);
        bad("field 4 6;d", SYNTAX, 10);
        bad("field 4 6;drill a 1 1 c", SYNTAX, 22);
        good("field 4 6;", 0);
    }

    /** Only ';' ends a line, and only letters and digits make words and numbers. */
    private static void bytesOutsideTheGrammar() {
        for (int sign = 0; sign < 256; sign++) {
            boolean blank = sign == 32 || sign == 9 || sign == 10;
            boolean digit = sign >= '0' && sign <= '9';
            if (blank || sign == ';') {
                good("field 4 6" + (char) sign + (sign == ';' ? "" : ";"), 0);
            } else if (digit) {
                bad("field 4 6" + (char) sign + ";", BAD_NUMBER, 8);
            } else {
                bad("field 4 6" + (char) sign + ";", SYNTAX, 9);
            }
            if (sign >= 'a' && sign <= 'z') {
                good("field 4 6;drill " + (char) sign + " 1 1;", 1);
            } else if (!blank) {
                bad("field 4 6;drill " + (char) sign + " 1 1;", SYNTAX, 16);
            }
        }
    }

    private static void lastValueCounts() {
        DrillContest x = Check.loaded("field 2 2;turn 99;turn 0;lift 99;lift 0;hand 99;hand 0;clear 99;clear 0;"
            + "score 99 99;score 0 0;stone 0 0;drill a 1 0;");
        check.same("text turn 0", x.turnCost(0, 0, 0), 0);
        check.same("text lift 0", x.passCost(0, 0), 2);
        check.same("text unsown weight 0", x.score(0), 0);
        x.handSow(0, 0, 1);
        check.same("text hand 0", x.cost(0), 0);
        x.clearStone(0, 0, 0);
        check.same("text clear 0", x.cost(0), 0);
        x.pass(0, 0);
        check.same("text overlap weight 0", x.score(0), 2);
        DrillContest y = Check.loaded("field 2 2;turn 0;turn 99;lift 0;lift 99;hand 0;hand 99;clear 0;clear 99;"
            + "score 0 0;score 99 99;stone 0 0;drill a 1 0;");
        check.same("text turn 99", y.turnCost(0, 0, 0), 99);
        check.same("text lift 99", y.passCost(0, 0), 2 + 99);
        check.same("text unsown weight 99", y.score(0), 3 * 99);
        y.handSow(0, 0, 1);
        check.same("text hand 99", y.cost(0), 99);
        y.clearStone(0, 0, 0);
        check.same("text clear 99", y.cost(0), 198);
        y.pass(0, 0);
        check.same("text overlap weight 99", y.score(0), 198 + 2 + 99 + 2 * 99 + 99);
    }
}
