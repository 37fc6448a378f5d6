/** Promises 1 to 9: a new object, the buffer, load and its errors. */
public final class InputTest {
    private static final Check check = new Check();
    private static final int SYNTAX = DrillContest.SYNTAX;
    private static final int BAD_NUMBER = DrillContest.BAD_NUMBER;
    private static final int BAD_NAME = DrillContest.BAD_NAME;
    private static final int TOO_MANY = DrillContest.TOO_MANY;

    public static void main(String[] args) {
        newObject();
        buffer();
        goodTexts();
        defaultsAndSettings();
        fieldTexts();
        syntaxErrors();
        numberErrors();
        nameErrors();
        failedLoadKeepsContest();
        loadForgetsActions();
        manyLoads();
        check.close("InputTest");
    }

    private static void newObject() {
        DrillContest x = new DrillContest();
        check.same("new drillCount", x.drillCount(), 0);
        check.same("new rowCount", x.rowCount(), 0);
        check.same("new columnCount", x.columnCount(), 0);
        check.same("new errorOffset", x.errorOffset(), -1);
        check.same("new errorKind", x.errorKind(), 0);
        check.same("new undoDepth", x.undoDepth(), 0);
        check.same("new undo", x.undo(), -1);
        check.same("new formattedByte", x.formattedByte(0), -1);
        check.same("new truncate(1)", x.truncate(1), false);
        check.same("new truncate(0)", x.truncate(0), true);
        check.outOfBounds("new unsown(0)", () -> x.unsown(0));
        check.badArgument("new drillAt(0)", () -> x.drillAt(0));
    }

    private static void buffer() {
        DrillContest x = new DrillContest();
        for (int k = 1; k <= 30; k++) {
            check.same("append " + k, x.append(0x20202020, 0x20202020, 0x20202020, 0x20202020, 0x20202020), 20 * k);
        }
        check.same("append beyond 600", x.append(0, 0, 0, 0, 0), -1);
        check.same("truncate(601)", x.truncate(601), false);
        check.same("truncate(-1)", x.truncate(-1), false);
        check.same("truncate(600)", x.truncate(600), true);
        check.same("truncate(581)", x.truncate(581), true);
        check.same("append at 581", x.append(0, 0, 0, 0, 0), -1);
        check.same("truncate(580)", x.truncate(580), true);
        check.same("append at 580", x.append(0x66696c6c, 0, 0, 0, 0), 600);
        // The bytes of the refused appends must not have come in: the first wrong one is at 580.
        check.badArgument("load of blanks", x::load);
        check.same("offset behind blanks", x.errorOffset(), 580);
        check.same("truncate after load", x.truncate(1), false);
        check.same("append after load", x.append(0, 0, 0, 0, 0), 20);
        check.same("truncate(19)", x.truncate(19), true);
        check.same("append at 19", x.append(0, 0, 0, 0, 0), 39);

        DrillContest y = new DrillContest();
        y.append(0x6669656c, 0x64203320, 0x353b2020, 0x20202020, 0x20202020);
        check.same("big end first", y.load(), 0);
        check.same("rows from words", y.rowCount(), 3);
        check.same("columns from words", y.columnCount(), 5);
    }

    private static void good(String text, int drills) {
        DrillContest x = new DrillContest();
        Check.feed(x, text);
        int got = -2;
        try {
            got = x.load();
        } catch (IllegalArgumentException e) {
            got = -3;
        }
        check.same("load of '" + text + "'", got, drills);
        check.same("errorOffset of '" + text + "'", x.errorOffset(), -1);
        check.same("errorKind of '" + text + "'", x.errorKind(), 0);
        check.same("drillCount of '" + text + "'", x.drillCount(), drills);
        check.same("emptied by '" + text + "'", x.truncate(1), false);
    }

    private static void goodTexts() {
        good("field 1 1;", 0);
        good("field 12 24;", 0);
        good("field 012 024;", 0);
        good(" \t\n field\n4\t6 ; \n", 0);
        good("field4 6;stone1 2;drill a2 1control;", 1);
        good("field 4 6;drill drill 1 0;drill field 4 9 control;drill stone 2 2 control;", 3);
        good("field 4 6;drill a 1 0;drill b 1 0;drill c 1 0;drill abcdef 1 0;", 4);
        good("field 12 3;drill a 8 9;", 1);
        good("field 4 6;turn 0;turn 99;lift 99;hand 99;clear 99;score 0 99;score 099 0;", 0);
        good("field 4 6;wet 0 0 3 5;wet 3 5 3 5;stone 3 5;stone 3 5;", 0);
        DrillContest x = new DrillContest();
        StringBuilder full = new StringBuilder("field 2 2;");
        while (full.length() < 600) {
            full.append(full.length() % 7 == 0 ? '\n' : ' ');
        }
        Check.feed(x, full.toString());
        check.same("load of 600 bytes", x.load(), 0);
    }

    private static void defaultsAndSettings() {
        DrillContest x = Check.loaded("field 3 4;stone 0 0;drill a 1 1;");
        check.same("default turn", x.turnCost(0, 0, 2), 5 + 2);
        check.same("default lift", x.passCost(0, 0), 4 + 2);
        check.same("default score", x.score(0), 110);
        x.handSow(0, 0, 1);
        check.same("default hand", x.cost(0), 3);
        x.clearStone(0, 0, 0);
        check.same("default clear", x.cost(0), 11);
        x.pass(0, 0);
        check.same("default overlap weight", x.score(0), 11 + 6 + 8 * 10 + 3);

        DrillContest y = Check.loaded("field 3 4;stone 0 0;turn 1;lift 3;hand 4;clear 6;score 7 9;turn 2;drill a 1 1;score 2 11;");
        check.same("last turn", y.turnCost(0, 0, 2), 2 + 2);
        check.same("set lift", y.passCost(0, 0), 4 + 3);
        check.same("last score", y.score(0), 22);
        y.handSow(0, 0, 1);
        check.same("set hand", y.cost(0), 4);
        y.clearStone(0, 0, 0);
        check.same("set clear", y.cost(0), 10);
        y.pass(0, 0);
        check.same("set overlap weight", y.score(0), 10 + 7 + 8 * 2 + 11);
    }

    private static void fieldTexts() {
        DrillContest x = Check.loaded("field 3 4;wet 0 1 1 2;stone 1 1;drill a 1 0;stone 2 3;wet 1 0 2 3;");
        check.same("field with wet and stones", Check.field(x, 0), ".~~./~#~~/~~~#");
        DrillContest y = Check.loaded("field 2 3;drill a 1 0;wet 0 0 1 2;stone 0 1;");
        check.same("stone over wet", Check.field(y, 0), "~#~/~~~");
        check.same("rowCount", y.rowCount(), 2);
        check.same("columnCount", y.columnCount(), 3);
    }

    private static void bad(String text, int kind, int offset) {
        DrillContest x = new DrillContest();
        Check.feed(x, text);
        check.badArgument("load of '" + text + "'", x::load);
        check.same("errorOffset of '" + text + "'", x.errorOffset(), offset);
        check.same("errorKind of '" + text + "'", x.errorKind(), kind);
        check.same("emptied by '" + text + "'", x.truncate(1), false);
        check.same("rowCount after '" + text + "'", x.rowCount(), 0);
    }

    private static void syntaxErrors() {
        bad("", SYNTAX, 0);
        bad("  \n", SYNTAX, 3);
        bad(" stone 1 1;", SYNTAX, 1);
        bad("fields 4 6;", SYNTAX, 0);
        bad("xield 4 6;", SYNTAX, 0);
        bad("fiel", SYNTAX, 0);
        bad("field 4 6;xtone 1 1;", SYNTAX, 10);
        bad("field 4 6;drill a 1 1 xontrol;", SYNTAX, 22);
        bad("Field 4 6;", SYNTAX, 0);
        bad("\0field 4 6;", SYNTAX, 0);
        bad("field", SYNTAX, 5);
        bad("field ", SYNTAX, 6);
        bad("field x 6;", SYNTAX, 6);
        bad("field 4", SYNTAX, 7);
        bad("field 4;", SYNTAX, 7);
        bad("field 4 6", SYNTAX, 9);
        bad("field 4 6 \t", SYNTAX, 11);
        bad("field 4 6 7;", SYNTAX, 10);
        bad("field -4 6;", SYNTAX, 6);
        bad("field 4,6;", SYNTAX, 7);
        bad("field 4 6;;", SYNTAX, 10);
        bad("field 4 6;\r", SYNTAX, 10);
        bad("field 4 6;" + (char) 228, SYNTAX, 10);
        bad("field 4 6;field 4 6;", SYNTAX, 10);
        bad("field 4 6; stones 1 1;", SYNTAX, 11);
        bad("field 4 6; sto", SYNTAX, 11);
        bad("field 4 6;stone 1 1", SYNTAX, 19);
        bad("field 4 6;stone 1 1 stone 1 1;", SYNTAX, 20);
        bad("field 4 6;stone 1 1 1;", SYNTAX, 20);
        bad("field 4 6;wet 1 1 1;", SYNTAX, 19);
        bad("field 4 6;12", SYNTAX, 10);
        bad("field 4 6;control;", SYNTAX, 10);
        bad("field 4 6;drill 1 1;", SYNTAX, 16);
        bad("field 4 6;drill ;", SYNTAX, 16);
        bad("field 4 6;drill abcdefg 1 1;", SYNTAX, 16);
        bad("field 4 6;drill control 1 1;", SYNTAX, 16);
        bad("field 4 6;drill A 1 1;", SYNTAX, 16);
        bad("field 4 6;drill aB 1 1;", SYNTAX, 17);
        bad("field 4 6;drill a control;", SYNTAX, 18);
        bad("field 4 6;drill a 1;", SYNTAX, 19);
        bad("field 4 6;drill a 1 1 controls;", SYNTAX, 22);
        bad("field 4 6;drill a 1 1 2;", SYNTAX, 22);
        bad("field 4 6;drill a 1 1 2222;", SYNTAX, 22);
        bad("field 4 6;drill a 1 1 control control;", SYNTAX, 30);
        bad("field 4 6;drill a 1 1 control", SYNTAX, 29);
        bad("field 4 6;score 1;", SYNTAX, 17);
        bad("field 4 6;turn;", SYNTAX, 14);
    }

    private static void numberErrors() {
        bad("field 0 6;", BAD_NUMBER, 6);
        bad("field 13 6;", BAD_NUMBER, 6);
        bad("field 4 0;", BAD_NUMBER, 8);
        bad("field 4 25;", BAD_NUMBER, 8);
        bad("field 0004 6;", BAD_NUMBER, 6);
        bad("field 4294967300 6;", BAD_NUMBER, 6);
        bad("field 4 6;stone 4 0;", BAD_NUMBER, 16);
        bad("field 4 6;stone 0 6;", BAD_NUMBER, 18);
        bad("field 4 6;wet 4 0 4 0;", BAD_NUMBER, 14);
        bad("field 4 6;wet 0 6 0 6;", BAD_NUMBER, 16);
        bad("field 4 6;wet 0 0 4 0;", BAD_NUMBER, 18);
        bad("field 4 6;wet 2 0 1 0;", BAD_NUMBER, 18);
        bad("field 4 6;wet 0 0 0 6;", BAD_NUMBER, 20);
        bad("field 4 6;wet 0 3 0 2;", BAD_NUMBER, 20);
        bad("field 4 6;drill a 0 0;", BAD_NUMBER, 18);
        bad("field 4 6;drill a 5 0;", BAD_NUMBER, 18);
        bad("field 12 6;drill a 9 0;", BAD_NUMBER, 19);
        bad("field 4 6;drill a 1 10;", BAD_NUMBER, 20);
        bad("field 4 6;turn 100;", BAD_NUMBER, 15);
        bad("field 4 6;lift 100;", BAD_NUMBER, 15);
        bad("field 4 6;hand 100;", BAD_NUMBER, 15);
        bad("field 4 6;clear 100;", BAD_NUMBER, 16);
        bad("field 4 6;score 100 1;", BAD_NUMBER, 16);
        bad("field 4 6;score 1 100", BAD_NUMBER, 18);
        bad("field 4 6;turn 0099;", BAD_NUMBER, 15);
    }

    private static void nameErrors() {
        bad("field 4 6;drill a 1 1;drill a 9 1;", BAD_NAME, 28);
        bad("field 4 6;drill a 1 1;drill b 1 1;drill\na;", BAD_NAME, 40);
        bad("field 4 6;drill a 1 1;drill b 1 1;drill c 1 1;drill d 1 1; drill a 1 1;", TOO_MANY, 59);
        bad("field 4 6;drill a 1 1;drill b 1 1;drill c 1 1;drill d 1 1;drill", TOO_MANY, 58);
        bad("field 4 6;drill a 1 1;drill b 1 1;drill c 1 1;drill d 1 1;drills", SYNTAX, 58);
        good("field 4 6;drill a 1 1;drill aa 1 1;drill ab 1 1;drill b 1 1;", 4);
    }

    private static void failedLoadKeepsContest() {
        DrillContest x = Check.loaded("field 3 4;drill a 2 1;drill b 1 0;");
        x.pass(0, 1);
        x.format(0);
        Check.feed(x, "field 2 2;drill z 1 0;turn 7;oops;");
        check.badArgument("failing load", x::load);
        check.same("drills kept", x.drillCount(), 2);
        check.same("rows kept", x.rowCount(), 3);
        check.same("columns kept", x.columnCount(), 4);
        check.same("position kept", x.position(0), 1);
        check.same("turn kept", x.turnCost(1, 0, 0), 5);
        check.same("undo kept", x.undoDepth(), 1);
        check.same("error offset", x.errorOffset(), 29);
        check.same("undo after failed load", x.undo(), 0);
        check.same("error stays after undo", x.errorOffset(), 29);
        check.same("kind stays after undo", x.errorKind(), SYNTAX);
        check.same("position undone", x.position(0), -1);
        check.badArgument("load of nothing", x::load);
        check.same("offset of nothing", x.errorOffset(), 0);
        check.same("formatted text kept", Check.formatted(x), "a w2 r1 $6 4/0");
        Check.feed(x, "field 2 2;drill z 1 0;");
        check.same("good load", x.load(), 1);
        check.same("error gone", x.errorOffset(), -1);
        check.same("kind gone", x.errorKind(), 0);
    }

    private static void manyLoads() {
        DrillContest x = new DrillContest();
        for (int k = 0; k < 6; k++) {
            Check.feed(x, "field 3 4;drill a 2 1;drill b 1 0;");
            check.same("load " + k, x.load(), 2);
            check.same("field " + k, Check.field(x, 1), "..../..../....");
            check.same("cost " + k, x.cost(1), 0);
            check.same("position " + k, x.position(1), -1);
            check.same("passes " + k, x.passCount(1), 0);
            x.pass(1, 2);
        }
    }

    private static void loadForgetsActions() {
        DrillContest x = Check.loaded("field 3 4;stone 1 1;drill a 2 1 control;turn 9;");
        x.pass(0, 0);
        x.setWidth(0, 1);
        x.format(0);
        String before = Check.formatted(x);
        Check.feed(x, "field 3 4;drill a 2 1;");
        check.same("second load", x.load(), 1);
        check.same("nothing to undo", x.undoDepth(), 0);
        check.same("undo answers NONE", x.undo(), -1);
        check.same("formatted text stays", Check.formatted(x), before);
        check.same("new field", Check.field(x, 0), "..../..../....");
        check.same("new cost", x.cost(0), 0);
        check.same("new position", x.position(0), -1);
        check.same("new passes", x.passCount(0), 0);
        check.same("new width", x.width(0), 2);
        check.same("new control", x.hasControl(0), false);
        check.same("new turn cost", x.turnCost(0, 0, 1), 5 + 4 - 1);
    }
}
