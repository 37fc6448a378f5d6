import java.nio.charset.StandardCharsets;

/** Counts and prints what is not as due; helpers to feed texts to a contest. */
final class Check {
    interface Call {
        void run();
    }

    private int wrong = 0;
    private int seen = 0;

    void same(String what, long got, long want) {
        seen++;
        if (got != want) {
            wrong++;
            System.out.println(what + ": answered " + got + ", due is " + want);
        }
    }

    void same(String what, boolean got, boolean want) {
        same(what, got ? 1 : 0, want ? 1 : 0);
    }

    void same(String what, String got, String want) {
        seen++;
        if (!got.equals(want)) {
            wrong++;
            System.out.println(what + ": answered '" + got + "', due is '" + want + "'");
        }
    }

    /** The class must be just the wanted one: what the machine throws is mostly a class below it. */
    void fails(String what, Class<?> want, Call call) {
        seen++;
        Class<?> got = null;
        try {
            call.run();
        } catch (RuntimeException e) {
            got = e.getClass();
        }
        if (got != want) {
            wrong++;
            System.out.println(what + ": threw " + got + ", due is " + want);
        }
    }

    void outOfBounds(String what, Call call) {
        fails(what, IndexOutOfBoundsException.class, call);
    }

    void badArgument(String what, Call call) {
        fails(what, IllegalArgumentException.class, call);
    }

    void badState(String what, Call call) {
        fails(what, IllegalStateException.class, call);
    }

    void close(String name) {
        System.out.println(name + ": " + seen + " checks, " + wrong + " wrong");
        if (wrong != 0) {
            System.exit(1);
        }
    }

    static void feed(DrillContest x, String text) {
        byte[] bytes = text.getBytes(StandardCharsets.ISO_8859_1);
        int length = 0;
        for (int at = 0; at < bytes.length; at += 20) {
            length = x.append(word(bytes, at), word(bytes, at + 4), word(bytes, at + 8),
                word(bytes, at + 12), word(bytes, at + 16));
        }
        if (!x.truncate(length - (length - bytes.length))) {
            throw new IllegalStateException("the buffer was not empty or the text is too long");
        }
    }

    private static int word(byte[] bytes, int at) {
        int word = 0;
        for (int k = at; k < at + 4; k++) {
            word = word << 8 | (k < bytes.length ? bytes[k] & 255 : 0);
        }
        return word;
    }

    static DrillContest loaded(String text) {
        DrillContest x = new DrillContest();
        feed(x, text);
        x.load();
        return x;
    }

    static String formatted(DrillContest x) {
        StringBuilder text = new StringBuilder();
        for (int k = 0; x.formattedByte(k) != DrillContest.NONE; k++) {
            text.append((char) x.formattedByte(k));
        }
        return text.toString();
    }

    /** The rows of a drill's field as formatRow shows them, joined by '/'. */
    static String field(DrillContest x, int drill) {
        StringBuilder text = new StringBuilder();
        for (int row = 0; row < x.rowCount(); row++) {
            x.formatRow(drill, row);
            text.append(row == 0 ? "" : "/").append(formatted(x));
        }
        return text.toString();
    }
}
