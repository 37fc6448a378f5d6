import java.util.Arrays;

/** A contest of seed drills, each on its own copy of a field. README.md tells how to use it. */
public final class DrillContest {
    public static final int NONE = -1;
    public static final int SOIL = 0;
    public static final int STONE = 1;
    public static final int WET = 2;
    public static final int SYNTAX = 1;
    public static final int BAD_NUMBER = 2;
    public static final int BAD_NAME = 3;
    public static final int TOO_MANY = 4;

    private static final int MAX_BYTES = 600;
    private static final int MAX_ROWS = 12;
    private static final int MAX_COLUMNS = 24;
    private static final int MAX_CELLS = MAX_ROWS * MAX_COLUMNS;
    private static final int MAX_DRILLS = 4;
    private static final int MAX_WIDTH = 8;
    private static final int MAX_RADIUS = 9;
    private static final int MAX_PRICE = 99;
    private static final int MAX_DIGITS = 3;
    private static final int MAX_LETTERS = 6;
    private static final int MAX_UNDO = 12;

    // Only SOIL can be sown, so one number holds both the kind of a cell and how often it was
    // sown: a SOIL cell is its number of times sown, the other kinds are below zero.
    private static final int UNSOWN_CELL = 0;
    private static final int STONE_CELL = -1;
    private static final int WET_CELL = -2;

    private static final int[] ROW_STEPS = {-1, 0, 0, 1};
    private static final int[] COLUMN_STEPS = {0, -1, 1, 0};

    private final InputText input;
    private final Parser parser;
    private final History history;
    private final Walker walker;
    private final Planner planner;
    private final Drill trial;
    private final StringBuilder formatted;
    private Contest contest;
    private Contest draft;

    public DrillContest() {
        input = new InputText();
        parser = new Parser(input);
        history = new History();
        walker = new Walker();
        planner = new Planner();
        trial = new Drill();
        formatted = new StringBuilder();
        contest = new Contest();
        draft = new Contest();
    }

    // ---- input

    public int append(int w0, int w1, int w2, int w3, int w4) {
        if (!input.hasRoomForWords(5)) {
            return NONE;
        }
        input.addWord(w0);
        input.addWord(w1);
        input.addWord(w2);
        input.addWord(w3);
        input.addWord(w4);
        return input.length;
    }

    public boolean truncate(int length) {
        return input.shorten(length);
    }

    public int load() throws IllegalArgumentException {
        boolean matches = parser.parse(draft);
        input.shorten(0);
        if (!matches) {
            throw new IllegalArgumentException("the text does not match");
        }
        draft.startDrills();
        Contest previous = contest;
        contest = draft;
        draft = previous;
        history.forgetAll();
        return contest.drillTotal;
    }

    public int errorOffset() {
        return parser.wrongAt;
    }

    public int errorKind() {
        return parser.wrongKind;
    }

    public int drillCount() {
        return contest.drillTotal;
    }

    public int rowCount() {
        return contest.rows;
    }

    public int columnCount() {
        return contest.columns;
    }

    // ---- the field of a drill

    public int cellKind(int drill, int row, int column) throws IndexOutOfBoundsException {
        Drill chosen = drillWithCell(drill, row, column);
        return kindOf(chosen.cellAt(row, column));
    }

    public int timesSown(int drill, int row, int column) throws IndexOutOfBoundsException {
        Drill chosen = drillWithCell(drill, row, column);
        return Math.max(0, chosen.cellAt(row, column));
    }

    public int cellsOf(int drill, int kind) throws IndexOutOfBoundsException, IllegalArgumentException {
        Drill chosen = drillOf(drill);
        if (kind != SOIL && kind != STONE && kind != WET) {
            throw new IllegalArgumentException("no such kind of cell");
        }
        return chosen.countKind(kind);
    }

    public int unsown(int drill) throws IndexOutOfBoundsException {
        return drillOf(drill).countUnsown();
    }

    public int overlap(int drill) throws IndexOutOfBoundsException {
        return drillOf(drill).sumOverlap();
    }

    public int mostSown(int drill) throws IndexOutOfBoundsException {
        return drillOf(drill).greatestSown();
    }

    public int stoneClusters(int drill) throws IndexOutOfBoundsException {
        walker.survey(drillOf(drill), STONE_CELL);
        return walker.regions;
    }

    public int largestCluster(int drill) throws IndexOutOfBoundsException {
        walker.survey(drillOf(drill), STONE_CELL);
        return walker.largest;
    }

    public int largestRectangle(int drill) throws IndexOutOfBoundsException {
        return drillOf(drill).greatestSoilArea();
    }

    public int longestUnsownRun(int drill, int row) throws IndexOutOfBoundsException {
        Drill chosen = drillWithCell(drill, row, 0);
        return longestRun(chosen.unsownColumns(row));
    }

    public int emptiestRow(int drill) throws IndexOutOfBoundsException {
        return drillOf(drill).rowWithMostUnsown();
    }

    public int unsownInColumn(int drill, int column) throws IndexOutOfBoundsException {
        Drill chosen = drillWithCell(drill, 0, column);
        return chosen.countUnsownIn(column);
    }

    public int unsownRegions(int drill) throws IndexOutOfBoundsException {
        walker.survey(drillOf(drill), UNSOWN_CELL);
        return walker.regions;
    }

    public int stepsToUnsown(int drill, int row, int column) throws IndexOutOfBoundsException {
        Drill chosen = drillWithCell(drill, row, column);
        return walker.stepsToUnsownFrom(chosen, row, column);
    }

    // ---- drills

    public int width(int drill) throws IndexOutOfBoundsException {
        return drillOf(drill).width;
    }

    public int radius(int drill) throws IndexOutOfBoundsException {
        return drillOf(drill).radius;
    }

    public boolean hasControl(int drill) throws IndexOutOfBoundsException {
        return drillOf(drill).control;
    }

    public int position(int drill) throws IndexOutOfBoundsException {
        return drillOf(drill).position;
    }

    public int passCount(int drill) throws IndexOutOfBoundsException {
        return drillOf(drill).passes;
    }

    public int cost(int drill) throws IndexOutOfBoundsException {
        return drillOf(drill).cost;
    }

    public int score(int drill) throws IndexOutOfBoundsException {
        return contest.scoreOf(drillOf(drill));
    }

    public int place(int drill) throws IndexOutOfBoundsException {
        drillOf(drill);
        return contest.placeOf(drill);
    }

    public int drillAt(int place) throws IllegalArgumentException {
        int found = contest.drillInPlace(place);
        if (found == NONE) {
            throw new IllegalArgumentException("no drill has this place");
        }
        return found;
    }

    // ---- questions about passes

    public int topCount(int drill) throws IndexOutOfBoundsException {
        return drillOf(drill).topRows();
    }

    public int turnCost(int drill, int first, int second) throws IndexOutOfBoundsException {
        drillWithTop(drill, first);
        Drill chosen = drillWithTop(drill, second);
        return contest.turnPrice(chosen, first, second);
    }

    public int lowerings(int drill, int top) throws IndexOutOfBoundsException {
        Drill chosen = drillWithTop(drill, top);
        return countRuns(chosen.columnsLowered(top));
    }

    public int loweredColumns(int drill, int top) throws IndexOutOfBoundsException {
        Drill chosen = drillWithTop(drill, top);
        return Integer.bitCount(chosen.columnsLowered(top));
    }

    public int stonesUnder(int drill, int top) throws IndexOutOfBoundsException {
        Drill chosen = drillWithTop(drill, top);
        return chosen.countStonesUnder(top);
    }

    public int firstLowered(int drill, int top) throws IndexOutOfBoundsException {
        Drill chosen = drillWithTop(drill, top);
        return lowestMember(chosen.columnsLowered(top));
    }

    public int lastLowered(int drill, int top) throws IndexOutOfBoundsException {
        Drill chosen = drillWithTop(drill, top);
        return highestMember(chosen.columnsLowered(top));
    }

    public int gain(int drill, int top) throws IndexOutOfBoundsException {
        Drill chosen = drillWithTop(drill, top);
        return chosen.countFirstSown(top);
    }

    public int waste(int drill, int top) throws IndexOutOfBoundsException {
        Drill chosen = drillWithTop(drill, top);
        return chosen.countSownAgain(top);
    }

    public int passCost(int drill, int top) throws IndexOutOfBoundsException {
        Drill chosen = drillWithTop(drill, top);
        return contest.passPrice(chosen, top);
    }

    public int bestTop(int drill) throws IndexOutOfBoundsException {
        return drillOf(drill).topWithMostGain();
    }

    public int reachedBy(int drill, int row, int column) throws IndexOutOfBoundsException {
        Drill chosen = drillWithCell(drill, row, column);
        return chosen.topsReaching(row, column);
    }

    public int outOfReach(int drill) throws IndexOutOfBoundsException {
        return drillOf(drill).countUnreached();
    }

    public int stoneToClear(int drill) throws IndexOutOfBoundsException {
        trial.copyFrom(drillOf(drill));
        return trial.stoneWorthClearing();
    }

    // ---- plans

    public int plan(int drill) throws IndexOutOfBoundsException {
        planner.choose(drillOf(drill));
        return planner.chosenSet;
    }

    public int planOverlap(int drill) throws IndexOutOfBoundsException {
        Drill chosen = drillOf(drill);
        planner.choose(chosen);
        trial.copyFrom(chosen);
        for (int top = 0; top < MAX_ROWS; top++) {
            if (hasMember(planner.chosenSet, top)) {
                trial.sow(top);
            }
        }
        return trial.sumOverlap();
    }

    public int planTurns(int drill) throws IndexOutOfBoundsException {
        Drill chosen = drillOf(drill);
        planner.choose(chosen);
        planner.arrange(contest, chosen);
        return planner.turns;
    }

    public int planTop(int drill, int k) throws IndexOutOfBoundsException {
        Drill chosen = drillOf(drill);
        planner.choose(chosen);
        planner.arrange(contest, chosen);
        return planner.topInOrder(k);
    }

    public int passesWithWidth(int drill, int width) throws IndexOutOfBoundsException, IllegalArgumentException {
        Drill chosen = drillOf(drill);
        if (!contest.allowsWidth(width)) {
            throw new IllegalArgumentException("the width is out of range");
        }
        trial.copyFrom(chosen);
        trial.changeWidth(width);
        planner.choose(trial);
        return Integer.bitCount(planner.chosenSet);
    }

    public int greedyPasses(int drill) throws IndexOutOfBoundsException {
        trial.copyFrom(drillOf(drill));
        return trial.sowGreedily();
    }

    public int greedyOverlap(int drill) throws IndexOutOfBoundsException {
        trial.copyFrom(drillOf(drill));
        trial.sowGreedily();
        return trial.sumOverlap();
    }

    public int costToFinish(int drill) throws IndexOutOfBoundsException {
        Drill chosen = drillOf(drill);
        planner.choose(chosen);
        planner.arrange(contest, chosen);
        trial.copyFrom(chosen);
        planner.carryOut(contest, trial);
        return trial.cost - chosen.cost + contest.hand * trial.countUnsown();
    }

    // ---- actions

    public int pass(int drill, int top) throws IndexOutOfBoundsException {
        Drill chosen = drillWithTop(drill, top);
        history.keep(drill, chosen);
        int firstSown = chosen.countFirstSown(top);
        contest.makePass(chosen, top);
        return firstSown;
    }

    public int handSow(int drill, int row, int column) throws IndexOutOfBoundsException, IllegalStateException {
        Drill chosen = drillWithCell(drill, row, column);
        if (chosen.cellAt(row, column) != UNSOWN_CELL) {
            throw new IllegalStateException("the cell is not SOIL or is sown");
        }
        history.keep(drill, chosen);
        chosen.putCell(row, column, 1);
        chosen.cost += contest.hand;
        return chosen.countUnsown();
    }

    public int clearStone(int drill, int row, int column) throws IndexOutOfBoundsException, IllegalStateException {
        Drill chosen = drillWithCell(drill, row, column);
        if (chosen.cellAt(row, column) != STONE_CELL) {
            throw new IllegalStateException("the cell is not a STONE");
        }
        history.keep(drill, chosen);
        chosen.putCell(row, column, UNSOWN_CELL);
        chosen.cost += contest.clear;
        return chosen.countKind(STONE);
    }

    public int setWidth(int drill, int width) throws IndexOutOfBoundsException, IllegalArgumentException {
        Drill chosen = drillOf(drill);
        if (!contest.allowsWidth(width)) {
            throw new IllegalArgumentException("the width is out of range");
        }
        history.keep(drill, chosen);
        int previous = chosen.width;
        chosen.changeWidth(width);
        return previous;
    }

    public boolean setControl(int drill, boolean control) throws IndexOutOfBoundsException {
        Drill chosen = drillOf(drill);
        history.keep(drill, chosen);
        boolean previous = chosen.control;
        chosen.control = control;
        return previous;
    }

    public int carryOutPlan(int drill) throws IndexOutOfBoundsException, IllegalStateException {
        Drill chosen = drillOf(drill);
        planner.choose(chosen);
        planner.arrange(contest, chosen);
        if (planner.chosenSet == 0) {
            throw new IllegalStateException("no pass is needed");
        }
        history.keep(drill, chosen);
        planner.carryOut(contest, chosen);
        return planner.size;
    }

    public int undo() {
        if (history.depth == 0) {
            return NONE;
        }
        history.takeBack(contest);
        return history.depth;
    }

    public int undoDepth() {
        return history.depth;
    }

    // ---- formatted text

    public int format(int drill) throws IndexOutOfBoundsException {
        Drill chosen = drillOf(drill);
        formatted.setLength(0);
        formatted.append(chosen.name);
        formatted.append(" w").append(chosen.width);
        formatted.append(" r").append(chosen.radius);
        if (chosen.control) {
            formatted.append(" cs");
        }
        formatted.append(" $").append(chosen.cost);
        formatted.append(' ').append(chosen.countUnsown());
        formatted.append('/').append(chosen.sumOverlap());
        return formatted.length();
    }

    public int formatRow(int drill, int row) throws IndexOutOfBoundsException {
        Drill chosen = drillWithCell(drill, row, 0);
        formatted.setLength(0);
        for (int column = 0; column < chosen.columns; column++) {
            formatted.append(signOf(chosen.cellAt(row, column)));
        }
        return formatted.length();
    }

    public int formattedByte(int index) {
        if (index < 0 || index >= formatted.length()) {
            return NONE;
        }
        return formatted.charAt(index);
    }

    // ---- the parameters of a call

    private Drill drillOf(int index) {
        if (index < 0 || index >= contest.drillTotal || index >= contest.drills.length) {
            throw new IndexOutOfBoundsException("no such drill");
        }
        return contest.drills[index];
    }

    private Drill drillWithCell(int index, int row, int column) {
        Drill chosen = drillOf(index);
        if (!chosen.hasCell(row, column)) {
            throw new IndexOutOfBoundsException("no such row or column");
        }
        return chosen;
    }

    private Drill drillWithTop(int index, int top) {
        Drill chosen = drillOf(index);
        if (top < 0 || top >= chosen.topRows()) {
            throw new IndexOutOfBoundsException("not the top row of a pass");
        }
        return chosen;
    }

    // ---- cells, and sets of rows or columns as bits

    private static int kindOf(int cell) {
        if (cell == STONE_CELL) {
            return STONE;
        }
        return cell == WET_CELL ? WET : SOIL;
    }

    private static char signOf(int cell) {
        if (cell == STONE_CELL) {
            return '#';
        }
        if (cell == WET_CELL) {
            return '~';
        }
        return cell == UNSOWN_CELL ? '.' : (char) ('0' + Math.min(9, cell));
    }

    private static boolean hasMember(int set, int member) {
        return (set >> member & 1) != 0;
    }

    private static int countRuns(int set) {
        // A run begins at each member whose lower neighbour is no member.
        return Integer.bitCount(set & ~(set << 1));
    }

    private static int longestRun(int set) {
        int longest = 0;
        int run = 0;
        for (int member = 0; member < MAX_COLUMNS; member++) {
            run = hasMember(set, member) ? run + 1 : 0;
            longest = Math.max(longest, run);
        }
        return longest;
    }

    private static int lowestMember(int set) {
        for (int member = 0; member < MAX_COLUMNS; member++) {
            if (hasMember(set, member)) {
                return member;
            }
        }
        return NONE;
    }

    private static int highestMember(int set) {
        for (int member = MAX_COLUMNS - 1; member >= 0; member--) {
            if (hasMember(set, member)) {
                return member;
            }
        }
        return NONE;
    }

    /** The bytes that wait for the next load. */
    private static final class InputText {
        final int[] bytes = new int[MAX_BYTES];
        int length;

        boolean hasRoomForWords(int words) {
            return length + 4 * words <= MAX_BYTES;
        }

        void addWord(int word) {
            for (int shift = 24; shift >= 0; shift -= 8) {
                if (length >= 0 && length < bytes.length) {
                    bytes[length] = word >> shift & 255;
                    length++;
                }
            }
        }

        boolean shorten(int newLength) {
            if (newLength < 0 || newLength > length) {
                return false;
            }
            length = newLength;
            return true;
        }

        int byteAt(int offset) {
            if (offset < 0 || offset >= length || offset >= bytes.length) {
                return NONE;
            }
            return bytes[offset];
        }
    }

    /** Reads a text into a contest; stops at the first error and keeps its place and kind. */
    private static final class Parser {
        private final InputText input;
        private Contest into;
        private int at;
        private int tokenStart;
        private int value;
        int wrongAt = NONE;
        int wrongKind;

        Parser(InputText input) {
            this.input = input;
        }

        boolean parse(Contest target) {
            into = target;
            at = 0;
            wrongAt = NONE;
            wrongKind = 0;
            if (!parseField() || !parseSemicolon()) {
                return false;
            }
            // Each line takes bytes, so there are fewer lines than bytes.
            for (int line = 0; line < MAX_BYTES; line++) {
                skipBlanks();
                if (at >= input.length) {
                    return true;
                }
                if (!parseLine() || !parseSemicolon()) {
                    return false;
                }
            }
            return true;
        }

        private boolean parseField() {
            readWord();
            if (!wordIs("field")) {
                return fail(SYNTAX);
            }
            if (!parseNumber(1, MAX_ROWS)) {
                return false;
            }
            int rows = value;
            if (!parseNumber(1, MAX_COLUMNS)) {
                return false;
            }
            into.begin(rows, value);
            return true;
        }

        private boolean parseLine() {
            readWord();
            if (wordIs("stone")) {
                return parseStone();
            }
            if (wordIs("wet")) {
                return parseWet();
            }
            if (wordIs("drill")) {
                return parseDrill();
            }
            if (wordIs("score")) {
                return parseScore();
            }
            return parsePrice();
        }

        private boolean parseStone() {
            if (!parseNumber(0, into.rows - 1)) {
                return false;
            }
            int row = value;
            if (!parseNumber(0, into.columns - 1)) {
                return false;
            }
            into.putStone(row, value);
            return true;
        }

        private boolean parseWet() {
            if (!parseNumber(0, into.rows - 1)) {
                return false;
            }
            int firstRow = value;
            if (!parseNumber(0, into.columns - 1)) {
                return false;
            }
            int firstColumn = value;
            if (!parseNumber(firstRow, into.rows - 1)) {
                return false;
            }
            int lastRow = value;
            if (!parseNumber(firstColumn, into.columns - 1)) {
                return false;
            }
            into.flood(firstRow, firstColumn, lastRow, value);
            return true;
        }

        private boolean parseDrill() {
            if (into.drillTotal >= MAX_DRILLS) {
                return fail(TOO_MANY);
            }
            readWord();
            int letters = at - tokenStart;
            if (letters < 1 || letters > MAX_LETTERS) {
                return fail(SYNTAX);
            }
            String name = wordRead();
            if (into.hasName(name)) {
                return fail(BAD_NAME);
            }
            if (!parseNumber(1, Math.min(MAX_WIDTH, into.rows))) {
                return false;
            }
            int width = value;
            if (!parseNumber(0, MAX_RADIUS)) {
                return false;
            }
            int radius = value;
            readWord();
            boolean control = wordIs("control");
            if (!control) {
                // Any other word stands where the semicolon should, and is found wrong there.
                at = tokenStart;
            }
            into.addDrill(name, width, radius, control);
            return true;
        }

        private boolean parseScore() {
            if (!parseNumber(0, MAX_PRICE)) {
                return false;
            }
            into.unsownWeight = value;
            if (!parseNumber(0, MAX_PRICE)) {
                return false;
            }
            into.overlapWeight = value;
            return true;
        }

        private boolean parsePrice() {
            boolean isTurn = wordIs("turn");
            boolean isLift = wordIs("lift");
            boolean isHand = wordIs("hand");
            if (!isTurn && !isLift && !isHand && !wordIs("clear")) {
                return fail(SYNTAX);
            }
            if (!parseNumber(0, MAX_PRICE)) {
                return false;
            }
            if (isTurn) {
                into.turn = value;
            } else if (isLift) {
                into.lift = value;
            } else if (isHand) {
                into.hand = value;
            } else {
                into.clear = value;
            }
            return true;
        }

        private boolean parseNumber(int least, int most) {
            skipBlanks();
            tokenStart = at;
            value = 0;
            while (at < input.length && isDigit(input.byteAt(at))) {
                // More digits than a number may have would only overflow; they are refused below.
                if (at - tokenStart < MAX_DIGITS) {
                    value = value * 10 + input.byteAt(at) - '0';
                }
                at++;
            }
            int digits = at - tokenStart;
            if (digits == 0) {
                return fail(SYNTAX);
            }
            if (digits > MAX_DIGITS || value < least || value > most) {
                return fail(BAD_NUMBER);
            }
            return true;
        }

        private boolean parseSemicolon() {
            skipBlanks();
            tokenStart = at;
            if (input.byteAt(at) != ';') {
                return fail(SYNTAX);
            }
            at++;
            return true;
        }

        private void readWord() {
            skipBlanks();
            tokenStart = at;
            while (at < input.length && isLetter(input.byteAt(at))) {
                at++;
            }
        }

        private boolean wordIs(String word) {
            if (at - tokenStart != word.length()) {
                return false;
            }
            for (int k = 0; k < word.length(); k++) {
                if (input.byteAt(tokenStart + k) != word.charAt(k)) {
                    return false;
                }
            }
            return true;
        }

        private String wordRead() {
            char[] letters = new char[Math.max(0, at - tokenStart)];
            for (int k = 0; k < letters.length; k++) {
                letters[k] = (char) input.byteAt(tokenStart + k);
            }
            return new String(letters);
        }

        private void skipBlanks() {
            while (at < input.length && isBlank(input.byteAt(at))) {
                at++;
            }
        }

        private static boolean isBlank(int sign) {
            return sign == ' ' || sign == '\t' || sign == '\n';
        }

        private static boolean isLetter(int sign) {
            return sign >= 'a' && sign <= 'z';
        }

        private static boolean isDigit(int sign) {
            return sign >= '0' && sign <= '9';
        }

        /** Every error counts at the first byte of its token; at the end of the text that is its length. */
        private boolean fail(int kind) {
            wrongAt = tokenStart;
            wrongKind = kind;
            return false;
        }
    }

    /** What a text tells: the field, the prices, the weights and the drills. */
    private static final class Contest {
        int rows;
        int columns;
        int turn;
        int lift;
        int hand;
        int clear;
        int unsownWeight;
        int overlapWeight;
        int drillTotal;
        final Drill[] drills = new Drill[MAX_DRILLS];
        private final int[] field = new int[MAX_CELLS];

        Contest() {
            for (int k = 0; k < MAX_DRILLS; k++) {
                drills[k] = new Drill();
            }
        }

        void begin(int rowsGiven, int columnsGiven) {
            rows = rowsGiven;
            columns = columnsGiven;
            turn = 5;
            lift = 2;
            hand = 3;
            clear = 8;
            unsownWeight = 10;
            overlapWeight = 3;
            drillTotal = 0;
            Arrays.fill(field, UNSOWN_CELL);
        }

        void putStone(int row, int column) {
            if (isCell(row, column)) {
                field[row * MAX_COLUMNS + column] = STONE_CELL;
            }
        }

        void flood(int firstRow, int firstColumn, int lastRow, int lastColumn) {
            for (int row = firstRow; row <= lastRow; row++) {
                for (int column = firstColumn; column <= lastColumn; column++) {
                    if (isCell(row, column) && field[row * MAX_COLUMNS + column] != STONE_CELL) {
                        field[row * MAX_COLUMNS + column] = WET_CELL;
                    }
                }
            }
        }

        boolean hasName(String name) {
            for (int k = 0; k < drillTotal && k < drills.length; k++) {
                if (drills[k].name.equals(name)) {
                    return true;
                }
            }
            return false;
        }

        void addDrill(String name, int width, int radius, boolean control) {
            if (drillTotal < 0 || drillTotal >= drills.length) {
                return;
            }
            drills[drillTotal].describe(name, width, radius, control);
            drillTotal++;
        }

        /** Lays the field under the drills only now, as stones may stand behind them in the text. */
        void startDrills() {
            for (int k = 0; k < drillTotal && k < drills.length; k++) {
                drills[k].start(rows, columns, field);
            }
        }

        boolean allowsWidth(int width) {
            return width >= 1 && width <= MAX_WIDTH && width <= rows;
        }

        int turnPrice(Drill drill, int from, int to) {
            int apart = Math.abs(from - to);
            return apart >= 2 * drill.radius ? turn + apart : turn + 4 * drill.radius - apart;
        }

        int passPrice(Drill drill, int top) {
            int price = columns + lift * countRuns(drill.columnsLowered(top));
            return drill.position == NONE ? price : price + turnPrice(drill, drill.position, top);
        }

        void makePass(Drill drill, int top) {
            drill.cost += passPrice(drill, top);
            drill.sow(top);
            drill.position = top;
            drill.passes++;
        }

        int scoreOf(Drill drill) {
            return drill.cost + unsownWeight * drill.countUnsown() + overlapWeight * drill.sumOverlap();
        }

        int placeOf(int index) {
            if (index < 0 || index >= drillTotal || index >= drills.length) {
                return NONE;
            }
            int score = scoreOf(drills[index]);
            int better = 0;
            for (int k = 0; k < drillTotal && k < drills.length; k++) {
                int other = scoreOf(drills[k]);
                if (other < score || other == score && k < index) {
                    better++;
                }
            }
            return better;
        }

        int drillInPlace(int place) {
            for (int k = 0; k < drillTotal; k++) {
                if (placeOf(k) == place) {
                    return k;
                }
            }
            return NONE;
        }

        private static boolean isCell(int row, int column) {
            return row >= 0 && row < MAX_ROWS && column >= 0 && column < MAX_COLUMNS;
        }
    }

    /** A drill and its copy of the field. */
    private static final class Drill {
        String name = "";
        int width = 1;
        int radius;
        boolean control;
        int position = NONE;
        int passes;
        int cost;
        int rows;
        int columns;
        private final int[] cells = new int[MAX_CELLS];

        void describe(String nameGiven, int widthGiven, int radiusGiven, boolean controlGiven) {
            name = nameGiven;
            width = widthGiven;
            radius = radiusGiven;
            control = controlGiven;
        }

        void start(int rowsGiven, int columnsGiven, int[] field) {
            rows = rowsGiven;
            columns = columnsGiven;
            position = NONE;
            passes = 0;
            cost = 0;
            System.arraycopy(field, 0, cells, 0, Math.min(field.length, cells.length));
        }

        void copyFrom(Drill other) {
            describe(other.name, other.width, other.radius, other.control);
            start(other.rows, other.columns, other.cells);
            position = other.position;
            passes = other.passes;
            cost = other.cost;
        }

        boolean hasCell(int row, int column) {
            return row >= 0 && row < rows && column >= 0 && column < columns;
        }

        /** Outside the field there is a STONE: nothing to sow and nowhere to step. */
        int cellAt(int row, int column) {
            if (row < 0 || row >= MAX_ROWS || column < 0 || column >= MAX_COLUMNS) {
                return STONE_CELL;
            }
            return cells[row * MAX_COLUMNS + column];
        }

        void putCell(int row, int column, int cell) {
            if (row >= 0 && row < MAX_ROWS && column >= 0 && column < MAX_COLUMNS) {
                cells[row * MAX_COLUMNS + column] = cell;
            }
        }

        void changeWidth(int newWidth) {
            width = newWidth;
            // A drill without a position stays without one: NONE is less than every top row.
            position = Math.min(position, topRows() - 1);
        }

        int topRows() {
            return rows - width + 1;
        }

        // ---- counts over the field

        int countKind(int kind) {
            int count = 0;
            for (int row = 0; row < rows; row++) {
                for (int column = 0; column < columns; column++) {
                    if (kindOf(cellAt(row, column)) == kind) {
                        count++;
                    }
                }
            }
            return count;
        }

        int countUnsown() {
            int count = 0;
            for (int column = 0; column < columns; column++) {
                count += countUnsownIn(column);
            }
            return count;
        }

        int countUnsownIn(int column) {
            int count = 0;
            for (int row = 0; row < rows; row++) {
                if (cellAt(row, column) == UNSOWN_CELL) {
                    count++;
                }
            }
            return count;
        }

        int sumOverlap() {
            int sum = 0;
            for (int row = 0; row < rows; row++) {
                for (int column = 0; column < columns; column++) {
                    sum += Math.max(0, cellAt(row, column) - 1);
                }
            }
            return sum;
        }

        int greatestSown() {
            int greatest = 0;
            for (int row = 0; row < rows; row++) {
                for (int column = 0; column < columns; column++) {
                    greatest = Math.max(greatest, cellAt(row, column));
                }
            }
            return greatest;
        }

        int rowWithMostUnsown() {
            int found = NONE;
            int most = 0;
            for (int row = 0; row < rows; row++) {
                int count = Integer.bitCount(unsownColumns(row));
                if (count > most) {
                    most = count;
                    found = row;
                }
            }
            return found;
        }

        int unsownColumns(int row) {
            int set = 0;
            for (int column = 0; column < columns; column++) {
                if (cellAt(row, column) == UNSOWN_CELL) {
                    set |= 1 << column;
                }
            }
            return set;
        }

        private int soilColumns(int row) {
            int set = 0;
            for (int column = 0; column < columns; column++) {
                if (cellAt(row, column) >= UNSOWN_CELL) {
                    set |= 1 << column;
                }
            }
            return set;
        }

        int greatestSoilArea() {
            int greatest = 0;
            for (int first = 0; first < rows; first++) {
                int common = soilColumns(first);
                for (int last = first; last < rows; last++) {
                    common &= soilColumns(last);
                    greatest = Math.max(greatest, longestRun(common) * (last - first + 1));
                }
            }
            return greatest;
        }

        // ---- passes

        private boolean lowersAt(int top, int column) {
            boolean soil = false;
            boolean stone = false;
            for (int row = top; row < top + width; row++) {
                int cell = cellAt(row, column);
                soil |= cell >= UNSOWN_CELL;
                stone |= cell == STONE_CELL;
            }
            return control ? soil : !stone;
        }

        int columnsLowered(int top) {
            int set = 0;
            for (int column = 0; column < columns; column++) {
                if (lowersAt(top, column)) {
                    set |= 1 << column;
                }
            }
            return set;
        }

        int countStonesUnder(int top) {
            int count = 0;
            for (int row = top; row < top + width; row++) {
                for (int column = 0; column < columns; column++) {
                    if (cellAt(row, column) == STONE_CELL) {
                        count++;
                    }
                }
            }
            return count;
        }

        int countFirstSown(int top) {
            int lowered = columnsLowered(top);
            int count = 0;
            for (int row = top; row < top + width; row++) {
                count += Integer.bitCount(lowered & unsownColumns(row));
            }
            return count;
        }

        int countSownAgain(int top) {
            return countSown(top) - countFirstSown(top);
        }

        int countSown(int top) {
            int lowered = columnsLowered(top);
            int count = 0;
            for (int row = top; row < top + width; row++) {
                count += Integer.bitCount(lowered & soilColumns(row));
            }
            return count;
        }

        void sow(int top) {
            int lowered = columnsLowered(top);
            for (int row = top; row < top + width; row++) {
                for (int column = 0; column < columns; column++) {
                    int cell = cellAt(row, column);
                    if (hasMember(lowered, column) && cell >= UNSOWN_CELL) {
                        putCell(row, column, cell + 1);
                    }
                }
            }
        }

        int topWithMostGain() {
            int found = NONE;
            int mostGain = 0;
            int leastWaste = 0;
            for (int top = 0; top < topRows(); top++) {
                int gain = countFirstSown(top);
                int waste = countSown(top) - gain;
                if (gain > mostGain || gain > 0 && gain == mostGain && waste < leastWaste) {
                    found = top;
                    mostGain = gain;
                    leastWaste = waste;
                }
            }
            return found;
        }

        /** Makes the pass with the most gain until there is none; answers the number of passes. */
        int sowGreedily() {
            // A pass leaves its own top row without gain, so no top row comes twice.
            for (int count = 0; count < MAX_ROWS; count++) {
                int top = topWithMostGain();
                if (top == NONE) {
                    return count;
                }
                sow(top);
            }
            return MAX_ROWS;
        }

        int topsReaching(int row, int column) {
            int set = 0;
            if (cellAt(row, column) < UNSOWN_CELL) {
                return set;
            }
            for (int top = Math.max(0, row - width + 1); top <= row && top < topRows(); top++) {
                if (lowersAt(top, column)) {
                    set |= 1 << top;
                }
            }
            return set;
        }

        int countUnreached() {
            int count = 0;
            for (int column = 0; column < columns; column++) {
                count += countUnreachedIn(column);
            }
            return count;
        }

        private int countUnreachedIn(int column) {
            int count = 0;
            for (int row = 0; row < rows; row++) {
                if (cellAt(row, column) == UNSOWN_CELL && topsReaching(row, column) == 0) {
                    count++;
                }
            }
            return count;
        }

        int stoneWorthClearing() {
            int found = NONE;
            int leastChange = 0;
            for (int row = 0; row < rows; row++) {
                for (int column = 0; column < columns; column++) {
                    if (cellAt(row, column) == STONE_CELL) {
                        int change = changeByClearing(row, column);
                        if (found == NONE || change < leastChange) {
                            found = row * columns + column;
                            leastChange = change;
                        }
                    }
                }
            }
            return found;
        }

        /** A stone keeps cells from being reached in its own column alone, so only that one is counted. */
        private int changeByClearing(int row, int column) {
            int before = countUnreachedIn(column);
            putCell(row, column, UNSOWN_CELL);
            int after = countUnreachedIn(column);
            putCell(row, column, STONE_CELL);
            return after - before;
        }
    }

    /** Walks over the cells of a field from one to the next. */
    private static final class Walker {
        private final int[] queue = new int[MAX_CELLS];
        private final int[] steps = new int[MAX_CELLS];
        private int entered;
        int regions;
        int largest;

        /** Counts the regions of the cells that are just as the wanted one. */
        void survey(Drill drill, int wanted) {
            regions = 0;
            largest = 0;
            Arrays.fill(steps, NONE);
            for (int row = 0; row < drill.rows; row++) {
                for (int column = 0; column < drill.columns; column++) {
                    if (drill.cellAt(row, column) == wanted && isNew(row, column)) {
                        spread(drill, row, column, true);
                        regions++;
                        largest = Math.max(largest, entered);
                    }
                }
            }
        }

        int stepsToUnsownFrom(Drill drill, int row, int column) {
            Arrays.fill(steps, NONE);
            spread(drill, row, column, false);
            // The cells were entered in the order of their steps, so the first one found is nearest.
            for (int k = 0; k < entered && k < queue.length; k++) {
                int cell = queue[k];
                if (drill.cellAt(rowOf(cell), columnOf(cell)) == UNSOWN_CELL) {
                    return stepsTo(cell);
                }
            }
            return NONE;
        }

        /** Enters all cells that can be come to: over cells like the first one, or over all but stones. */
        private void spread(Drill drill, int row, int column, boolean alike) {
            int first = drill.cellAt(row, column);
            entered = 0;
            enter(row, column, 0);
            for (int k = 0; k < entered && k < queue.length; k++) {
                int from = queue[k];
                for (int side = 0; side < 4; side++) {
                    int nextRow = rowOf(from) + ROW_STEPS[side];
                    int nextColumn = columnOf(from) + COLUMN_STEPS[side];
                    int next = drill.cellAt(nextRow, nextColumn);
                    boolean open = alike ? next == first : next != STONE_CELL;
                    if (open && drill.hasCell(nextRow, nextColumn) && isNew(nextRow, nextColumn)) {
                        enter(nextRow, nextColumn, stepsTo(from) + 1);
                    }
                }
            }
        }

        private void enter(int row, int column, int stepsTaken) {
            int cell = row * MAX_COLUMNS + column;
            if (cell >= 0 && cell < steps.length && entered >= 0 && entered < queue.length) {
                steps[cell] = stepsTaken;
                queue[entered] = cell;
                entered++;
            }
        }

        private boolean isNew(int row, int column) {
            return stepsTo(row * MAX_COLUMNS + column) == NONE;
        }

        private int stepsTo(int cell) {
            return cell >= 0 && cell < steps.length ? steps[cell] : NONE;
        }

        private static int rowOf(int cell) {
            return cell / MAX_COLUMNS;
        }

        private static int columnOf(int cell) {
            return cell % MAX_COLUMNS;
        }
    }

    /** Finds the best plan of a drill and the best order of its passes. */
    private static final class Planner {
        private final int[] needs = new int[MAX_CELLS];
        private final int[] sowings = new int[MAX_ROWS];
        private final int[] members = new int[MAX_ROWS];
        private final int[] order = new int[MAX_ROWS];
        private final int[] prices = new int[MAX_ROWS];
        private final int[] nextTops = new int[MAX_ROWS];
        private final int[] nextTurns = new int[MAX_ROWS];
        private int nextTotal;
        private int needTotal;
        // The least sum of turns through a set of members, from a member on; it grows with the plans.
        private int[] turnsLeft = new int[0];
        // What turnsLeft was measured for: a plan is often asked for many times.
        private int measuredSet;
        private int measuredRadius;
        private int measuredTurn;
        int chosenSet;
        int size;
        int turns;

        void choose(Drill drill) {
            gatherNeeds(drill);
            weighPasses(drill);
            chosenSet = 0;
            size = 0;
            int leastSown = NONE;
            int tops = Math.min(MAX_ROWS, drill.topRows());
            for (int set = 0; set < 1 << tops; set++) {
                if (meetsNeeds(set)) {
                    int sum = sownBy(set);
                    int count = Integer.bitCount(set);
                    if (leastSown == NONE || sum < leastSown || sum == leastSown && count < size) {
                        leastSown = sum;
                        chosenSet = set;
                        size = count;
                    }
                }
            }
        }

        /** A plan needs, for each cell that is still to be sown, one of the top rows that reach it. */
        private void gatherNeeds(Drill drill) {
            needTotal = 0;
            for (int row = 0; row < drill.rows; row++) {
                for (int column = 0; column < drill.columns; column++) {
                    if (drill.cellAt(row, column) == UNSOWN_CELL) {
                        addNeed(drill.topsReaching(row, column));
                    }
                }
            }
        }

        private void addNeed(int set) {
            if (set == 0) {
                return;
            }
            for (int k = 0; k < needTotal && k < needs.length; k++) {
                if (needs[k] == set) {
                    return;
                }
            }
            if (needTotal >= 0 && needTotal < needs.length) {
                needs[needTotal] = set;
                needTotal++;
            }
        }

        /**
         * Each sowing of a cell adds 1 to the overlap, but for the first one; and every plan sows
         * the same cells for the first time. So the overlap after a plan is least when its passes
         * sow the least number of cells.
         */
        private void weighPasses(Drill drill) {
            for (int top = 0; top < MAX_ROWS; top++) {
                sowings[top] = top < drill.topRows() ? drill.countSown(top) : 0;
            }
        }

        private int sownBy(int set) {
            int sum = 0;
            for (int top = 0; top < MAX_ROWS; top++) {
                if (hasMember(set, top)) {
                    sum += sowings[top];
                }
            }
            return sum;
        }

        private boolean meetsNeeds(int set) {
            for (int k = 0; k < needTotal && k < needs.length; k++) {
                if ((needs[k] & set) == 0) {
                    return false;
                }
            }
            return true;
        }

        /** Finds the best order of the plan that was chosen last, which must be this drill's. */
        void arrange(Contest contest, Drill drill) {
            listMembers();
            measureTurns(contest, drill);
            followCheapest(contest, drill);
        }

        private void listMembers() {
            size = 0;
            for (int top = 0; top < MAX_ROWS; top++) {
                if (hasMember(chosenSet, top) && size < members.length) {
                    members[size] = top;
                    size++;
                }
            }
        }

        private int memberAt(int k) {
            return k >= 0 && k < members.length ? members[k] : 0;
        }

        private void measureTurns(Contest contest, Drill drill) {
            if (chosenSet == measuredSet && drill.radius == measuredRadius && contest.turn == measuredTurn) {
                return;
            }
            measuredSet = chosenSet;
            measuredRadius = drill.radius;
            measuredTurn = contest.turn;
            int room = size << size;
            if (turnsLeft.length < room) {
                turnsLeft = new int[room];
            }
            priceTurns(contest, drill);
            for (int set = 0; set < 1 << size; set++) {
                listNext(set);
                for (int from = 0; from < size; from++) {
                    if (!hasMember(set, from)) {
                        putTurns(set, from, leastTurns(memberAt(from)));
                    }
                }
            }
        }

        private void priceTurns(Contest contest, Drill drill) {
            for (int apart = 0; apart < MAX_ROWS; apart++) {
                prices[apart] = contest.turnPrice(drill, 0, apart);
            }
        }

        /** What follows a next pass is the same wherever the drill comes from, so it is looked up once. */
        private void listNext(int set) {
            nextTotal = 0;
            for (int next = 0; next < size; next++) {
                if (hasMember(set, next) && nextTotal < MAX_ROWS) {
                    nextTops[nextTotal] = memberAt(next);
                    nextTurns[nextTotal] = turnsFrom(set, next);
                    nextTotal++;
                }
            }
        }

        /** The least sum of turns from a top row through the passes that were listed last. */
        private int leastTurns(int top) {
            int least = NONE;
            for (int k = 0; k < nextTotal && k < MAX_ROWS; k++) {
                int apart = Math.abs(top - nextTops[k]);
                int sum = (apart >= 0 && apart < MAX_ROWS ? prices[apart] : 0) + nextTurns[k];
                if (least == NONE || sum < least) {
                    least = sum;
                }
            }
            return Math.max(0, least);
        }

        /** Of equally cheap next passes takes the lowest: so the order is the lexicographically smallest. */
        private void followCheapest(Contest contest, Drill drill) {
            turns = 0;
            int position = drill.position;
            int set = (1 << size) - 1;
            for (int step = 0; step < size && step < order.length; step++) {
                int best = NONE;
                int least = 0;
                for (int next = 0; next < size; next++) {
                    if (hasMember(set, next)) {
                        int sum = turnTo(contest, drill, position, memberAt(next)) + turnsFrom(set, next);
                        if (best == NONE || sum < least) {
                            best = next;
                            least = sum;
                        }
                    }
                }
                if (best == NONE) {
                    return;
                }
                turns += turnTo(contest, drill, position, memberAt(best));
                position = memberAt(best);
                order[step] = position;
                set &= ~(1 << best);
            }
        }

        private static int turnTo(Contest contest, Drill drill, int position, int top) {
            return position == NONE ? 0 : contest.turnPrice(drill, position, top);
        }

        /** The least sum of turns that is left when, of a set, the given member comes first. */
        private int turnsFrom(int set, int member) {
            int index = (set & ~(1 << member)) * size + member;
            return index >= 0 && index < turnsLeft.length ? turnsLeft[index] : 0;
        }

        private void putTurns(int set, int member, int sum) {
            int index = set * size + member;
            if (index >= 0 && index < turnsLeft.length) {
                turnsLeft[index] = sum;
            }
        }

        int topInOrder(int k) {
            return k >= 0 && k < size && k < order.length ? order[k] : NONE;
        }

        void carryOut(Contest contest, Drill drill) {
            for (int k = 0; k < size && k < order.length; k++) {
                contest.makePass(drill, order[k]);
            }
        }
    }

    /** The drills as they were before the latest actions; an action changes no more than one drill. */
    private static final class History {
        private final Drill[] before = new Drill[MAX_UNDO];
        private final int[] changed = new int[MAX_UNDO];
        private int next;
        int depth;

        History() {
            for (int k = 0; k < MAX_UNDO; k++) {
                before[k] = new Drill();
            }
        }

        void keep(int index, Drill drill) {
            if (next < 0 || next >= before.length || next >= changed.length) {
                return;
            }
            before[next].copyFrom(drill);
            changed[next] = index;
            next = (next + 1) % MAX_UNDO;
            depth = Math.min(MAX_UNDO, depth + 1);
        }

        void takeBack(Contest contest) {
            next = (next + MAX_UNDO - 1) % MAX_UNDO;
            depth--;
            if (next < 0 || next >= before.length || next >= changed.length) {
                return;
            }
            int index = changed[next];
            if (index >= 0 && index < contest.drills.length) {
                contest.drills[index].copyFrom(before[next]);
            }
        }

        void forgetAll() {
            next = 0;
            depth = 0;
        }
    }
}
