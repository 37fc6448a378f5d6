/** Promises 63 to 65: the formatted text. */
public final class FormatTest {
    private static final Check check = new Check();

    public static void main(String[] args) {
        drills();
        rows();
        bytes();
        wrongIndexes();
        check.close("FormatTest");
    }

    private static void shows(DrillContest x, int drill, String want) {
        check.same("length of '" + want + "'", x.format(drill), want.length());
        check.same("format", Check.formatted(x), want);
    }

    private static void drills() {
        DrillContest x = Check.loaded("field 12 24;drill abcdef 8 9 control;drill b 1 0;");
        shows(x, 0, "abcdef w8 r9 cs $0 288/0");
        shows(x, 1, "b w1 r0 $0 288/0");
        x.pass(0, 0);
        x.pass(0, 4);
        shows(x, 0, "abcdef w8 r9 cs $" + (26 + 26 + 5 + 36 - 4) + " 0/96");
        x.setControl(0, false);
        x.setWidth(0, 3);
        shows(x, 0, "abcdef w3 r9 $89 0/96");
        DrillContest y = Check.loaded("field 1 1;drill z 1 0;hand 0;");
        y.handSow(0, 0, 0);
        shows(y, 0, "z w1 r0 $0 0/0");
    }

    private static void rows() {
        DrillContest x = Check.loaded("field 2 5;stone 0 1;wet 0 2 0 2;drill a 1 0;drill b 1 0;");
        check.same("length", x.formatRow(0, 0), 5);
        check.same("row", Check.formatted(x), ".#~..");
        for (int k = 1; k <= 11; k++) {
            x.pass(0, 0);
            x.formatRow(0, 0);
            char sign = (char) ('0' + Math.min(9, k));
            check.same("after " + k, Check.formatted(x), sign + "#~" + sign + sign);
        }
        check.same("times go on", x.timesSown(0, 0, 0), 11);
        x.formatRow(0, 1);
        check.same("the other row", Check.formatted(x), ".....");
        x.formatRow(1, 0);
        check.same("the other drill", Check.formatted(x), ".#~..");
    }

    private static void bytes() {
        DrillContest x = Check.loaded("field 2 5;drill a 1 0;");
        check.same("nothing yet", x.formattedByte(0), -1);
        int length = x.format(0);
        check.same("first", x.formattedByte(0), 'a');
        check.same("second", x.formattedByte(1), ' ');
        check.same("last", x.formattedByte(length - 1), '0');
        check.same("behind the last", x.formattedByte(length), -1);
        check.same("below 0", x.formattedByte(-1), -1);
        check.same("far below 0", x.formattedByte(Integer.MIN_VALUE), -1);
        check.same("far behind", x.formattedByte(Integer.MAX_VALUE), -1);
        x.formatRow(0, 0);
        check.same("replaced by a shorter one", x.formattedByte(5), -1);
        check.same("its last", x.formattedByte(4), '.');
        x.pass(0, 0);
        check.same("not changed by a pass", x.formattedByte(4), '.');
    }

    private static void wrongIndexes() {
        DrillContest x = Check.loaded("field 2 5;drill a 1 0;");
        x.format(0);
        String before = Check.formatted(x);
        int[] wrong = {-1, 2, 12, Integer.MAX_VALUE, Integer.MIN_VALUE};
        for (int k : wrong) {
            check.outOfBounds("format", () -> x.format(k));
            check.outOfBounds("formatRow drill", () -> x.formatRow(k, 0));
            check.outOfBounds("formatRow row", () -> x.formatRow(0, k));
        }
        check.same("the text stays", Check.formatted(x), before);
    }
}
