import java.util.ArrayList;
import java.util.List;
import java.util.regex.Matcher;
import java.util.regex.Pattern;

/** Reads a text into a Model: first cut into tokens, then the lines by a table of their numbers. */
final class TextModel {
    private static final Pattern TOKEN = Pattern.compile("[a-z]+|[0-9]+|[^ \t\n]", Pattern.DOTALL);

    private static final class Wrong extends Exception {
        private static final long serialVersionUID = 1L;
        final int offset;
        final int kind;

        Wrong(int offset, int kind) {
            super("", null, false, false);
            this.offset = offset;
            this.kind = kind;
        }
    }

    private final List<String> tokens = new ArrayList<>();
    private final List<Integer> offsets = new ArrayList<>();
    private int next = 0;
    int errorOffset = -1;
    int errorKind = 0;
    Model model = new Model();

    TextModel(String text) {
        Matcher m = TOKEN.matcher(text);
        while (m.find()) {
            tokens.add(m.group());
            offsets.add(m.start());
        }
        tokens.add("");
        offsets.add(text.length());
        try {
            read();
        } catch (Wrong e) {
            model = null;
            errorOffset = e.offset;
            errorKind = e.kind;
        }
    }

    private Wrong wrong(int kind) {
        return new Wrong(offsets.get(next), kind);
    }

    private void expect(String token) throws Wrong {
        if (!tokens.get(next).equals(token)) {
            throw wrong(1);
        }
        next++;
    }

    private int number(int least, int most) throws Wrong {
        String token = tokens.get(next);
        if (!token.matches("[0-9]+")) {
            throw wrong(1);
        }
        if (token.length() > 3 || Integer.parseInt(token) < least || Integer.parseInt(token) > most) {
            throw wrong(2);
        }
        next++;
        return Integer.parseInt(token);
    }

    private void read() throws Wrong {
        expect("field");
        model.rows = number(1, 12);
        model.columns = number(1, 24);
        expect(";");
        int[][] kind = new int[model.rows][model.columns];
        while (!tokens.get(next).isEmpty()) {
            readLine(kind);
            expect(";");
        }
        for (Model.Drill d : model.drills) {
            d.kind = new int[model.rows][];
            for (int row = 0; row < model.rows; row++) {
                d.kind[row] = kind[row].clone();
            }
            d.times = new int[model.rows][model.columns];
        }
    }

    private void readLine(int[][] kind) throws Wrong {
        int lastRow = model.rows - 1;
        int lastColumn = model.columns - 1;
        String word = tokens.get(next);
        if (word.equals("drill") && model.drills.size() == 4) {
            throw wrong(4);
        }
        if (!List.of("stone", "wet", "drill", "turn", "lift", "hand", "clear", "score").contains(word)) {
            throw wrong(1);
        }
        next++;
        switch (word) {
            case "stone" -> {
                int row = number(0, lastRow);
                kind[row][number(0, lastColumn)] = 1;
            }
            case "wet" -> {
                int r1 = number(0, lastRow);
                int c1 = number(0, lastColumn);
                int r2 = number(r1, lastRow);
                int c2 = number(c1, lastColumn);
                for (int row = r1; row <= r2; row++) {
                    for (int column = c1; column <= c2; column++) {
                        kind[row][column] = kind[row][column] == 1 ? 1 : 2;
                    }
                }
            }
            case "drill" -> readDrill();
            case "turn" -> model.turn = number(0, 99);
            case "lift" -> model.lift = number(0, 99);
            case "hand" -> model.hand = number(0, 99);
            case "clear" -> model.clear = number(0, 99);
            default -> {
                model.unsownWeight = number(0, 99);
                model.overlapWeight = number(0, 99);
            }
        }
    }

    private void readDrill() throws Wrong {
        Model.Drill d = new Model.Drill();
        d.name = tokens.get(next);
        if (!d.name.matches("[a-z]{1,6}")) {
            throw wrong(1);
        }
        for (Model.Drill other : model.drills) {
            if (other.name.equals(d.name)) {
                throw wrong(3);
            }
        }
        next++;
        d.width = number(1, Math.min(8, model.rows));
        d.radius = number(0, 9);
        if (tokens.get(next).equals("control")) {
            d.control = true;
            next++;
        }
        model.drills.add(d);
    }
}
