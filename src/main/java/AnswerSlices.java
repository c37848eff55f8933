/**
 * What answers of chance rest on: short texts of coins, dice, data and what was seen are worked
 * through all that may come. The numbered promises that this class keeps are in DOC.md.
 */
public final class AnswerSlices {
    public static final int BAD = -1, NONE = -2, FULL = -3;

    private static final int NOTHING = 1, BEYOND = 2, CAST = 3, SIZE = 4, NOUGHT = 5, RAISED = 6;
    private static final int FINDING_BASE = -10;
    private static final int FINDING_LIMIT = 3000;
    private static final int FAULT_BASE = -100;

    private static final int COLUMN_LIMIT = 6;
    private static final int CELL_LIMIT = 20;
    private static final int TAPE_LIMIT = 300;
    private static final int STATEMENT_LIMIT = 16;
    private static final int RUN_LIMIT = 64;
    private static final int OPEN_LIMIT = 8;
    private static final int COIN_LIMIT = 12;
    private static final int DIE_REACH = 7;
    private static final int WORST_REACH = 4;
    private static final int TOKEN_LENGTH = 6;

    private static final int KINDS = 8;
    private static final int TRUTHS = 0, BYTES = 1, CHARS = 2, SHORTS = 3, INTS = 4, FLOATS = 6, DOUBLES = 7;
    /** For each KIND a bit for each KIND that it WIDENS to. */
    private static final int[] WIDENS = {
        0b00000001, 0b11111010, 0b11110100, 0b11111000, 0b11110000, 0b11100000, 0b11000000, 0b10000000
    };

    /** The first five are also the statements' words, by the numbers that statement() tells. */
    private static final String WORDS = "coin die let see ask of to col if then else try fail ";
    private static final int WORD_COUNT = 13;
    private static final int COIN = 0, DIE = 1, LET = 2, SEE = 3, ASK = 4;
    private static final int OF = 5, TO = 6, COL = 7, IF = 8, THEN = 9, ELSE = 10, TRY = 11, FAIL = 12;
    /** Tokens beside the words above; a sign is its own byte, and all of those are higher. */
    private static final int END = 20, NAME = 21, NUMBER = 22, WRONG = 23;

    private static final int DRAWS = 0, LETS = 1, SEES = 2, QUESTIONS = 3, GROUPS = 4;

    private static final int NO_TOKEN = 1, MISPLACED = 2, NAME_TAKEN = 3, NAME_UNKNOWN = 4;
    private static final int OUT_OF_BOUNDS = 5, TOO_MANY = 6, TOO_DEEP = 7;

    /** Steps of a compiled EXP; those that combine two values are their sign's byte. */
    private static final int PUSH = 0, RECALL = 1, CELL = 2, NEGATE = 3, RAISE = 4;
    private static final int UNLESS = 5, JUMP = 6, GUARD = 7, LEAVE = 8;

    /** A QUESTION's outcome is its int value, or this and the FINDING by which it FAILED. */
    private static final long FAILED = 1L << 40;
    private static final int ALL_STATEMENTS = -1;

    private final Columns columns;
    private final byte[] tape;
    private final Parser parser;
    private final Runs runs;
    private final Board board;
    private Text text;
    private Text draft;
    private int tapeSize;
    private int faultCode;
    private long askedFor;

    public AnswerSlices() {
        columns = new Columns();
        tape = new byte[TAPE_LIMIT];
        parser = new Parser();
        runs = new Runs(new Machine(columns));
        board = new Board();
        text = new Text();
        draft = new Text();
    }

    // ---- columns

    public int row(int column, int kind, int n) {
        if (!columns.isColumn(column)) return BAD;
        if (kind == NONE) {
            columns.give(column, null);
            return 1;
        }
        if (!isKind(kind) || n > CELL_LIMIT) return BAD;
        if (n < 0) return FINDING_BASE - SIZE;
        columns.give(column, new Row(kind, n));
        return 1;
    }

    public int share(int column, int other) {
        if (!columns.isColumn(column) || !columns.isColumn(other)) return BAD;
        Row row = columns.of(other);
        if (columns.of(column) == row) return 0;
        columns.give(column, row);
        return 1;
    }

    public int copy(int column, int other) {
        if (!columns.isColumn(column) || !columns.isColumn(other)) return BAD;
        Row row = columns.of(other);
        if (row == null) return FINDING_BASE - NOTHING;
        Row twin = new Row(row.kind, row.cells.length);
        System.arraycopy(row.cells, 0, twin.cells, 0, row.cells.length);
        columns.give(column, twin);
        return twin.cells.length;
    }

    public int put(int column, int i, int sort, long v) {
        if (!columns.isColumn(column) || !isKind(sort)) return BAD;
        Row row = columns.of(column);
        if (row == null) return FINDING_BASE - NOTHING;
        if (!row.has(i)) return FINDING_BASE - BEYOND;
        if (!widens(sort, row.kind)) return FINDING_BASE - CAST;
        row.cells[i] = asKind(row.kind, asKind(sort, v));
        return 1;
    }

    public int get(int column, int i, int sort) {
        if (!columns.isColumn(column) || !isKind(sort)) return BAD;
        Row row = columns.of(column);
        if (row == null) return FINDING_BASE - NOTHING;
        if (!row.has(i)) return FINDING_BASE - BEYOND;
        if (!widens(row.kind, sort)) return FINDING_BASE - CAST;
        askedFor = asKind(sort, row.cells[i]);
        return 1;
    }

    public long asked() {
        return askedFor;
    }

    public int about(int column, int what) {
        if (!columns.isColumn(column) || what < 0 || what > 2) return BAD;
        Row row = columns.of(column);
        if (row == null) return FINDING_BASE - NOTHING;
        if (what == 0) return row.kind;
        return what == 1 ? row.cells.length : columns.leastWith(row);
    }

    // ---- texts

    public int type(long w, int n) {
        if (n < 1 || n > 8) return BAD;
        if (tapeSize + n > TAPE_LIMIT) return FULL;
        for (int shift = 8 * (n - 1); shift >= 0; shift -= 8) {
            tape[tapeSize] = (byte) (w >> shift);
            tapeSize++;
        }
        return tapeSize;
    }

    public int read() {
        draft.load(tape, tapeSize);
        tapeSize = 0;
        boolean sound = parser.parse(draft);
        faultCode = parser.faultCode;
        if (!sound) return FAULT_BASE - parser.faultPlace;
        Text former = text;
        text = draft;
        draft = former;
        return text.size;
    }

    public int fault() {
        return faultCode;
    }

    public int statement(int s, int what) {
        if (s < 0 || s >= text.size) return BAD;
        Statement at = text.statements[s];
        switch (what) {
            case 0: return at.word;
            case 1: return at.begin;
            case 2: return at.number;
            case 3: return at.first;
            case 4: return at.second;
            default: return BAD;
        }
    }

    public int count(int what) {
        if (what == 0) return text.size;
        if (what >= 1 && what <= GROUPS) return text.counts[what - 1];
        if (what == 5) return text.runs;
        if (what == 6) return text.tokens;
        if (what > 6 && what <= 6 + RAISED) return runs.machine.came[what - 6];
        return what == 13 ? tapeSize : BAD;
    }

    // ---- what is worked

    public int odds(int question, int v) {
        if (text.find(QUESTIONS, question) < 0) return BAD;
        if (isFull()) return FULL;
        workAll();
        return show(runs.weightOf(question, v), runs.mass());
    }

    public int fails(int question, int f) {
        if (text.find(QUESTIONS, question) < 0 || f < NOTHING || f > RAISED) return BAD;
        if (isFull()) return FULL;
        workAll();
        return show(runs.weightOf(question, FAILED + f), runs.mass());
    }

    public int values(int question) {
        if (text.find(QUESTIONS, question) < 0) return BAD;
        if (isFull()) return FULL;
        workAll();
        return runs.gather(question);
    }

    public int value(int question, int i) {
        if (text.find(QUESTIONS, question) < 0) return BAD;
        if (isFull()) return FULL;
        workAll();
        if (i < 0 || i >= runs.gather(question)) return NONE;
        askedFor = runs.rising[i];
        return 1;
    }

    public int mean(int question) {
        if (text.find(QUESTIONS, question) < 0) return BAD;
        if (isFull()) return FULL;
        workAll();
        return show(runs.sumOfValues(question), runs.weightOfValues(question));
    }

    public int cut(int see) {
        if (text.find(SEES, see) < 0) return BAD;
        if (isFull()) return FULL;
        workAll();
        return show(runs.weightCutBy(see), runs.allWeight());
    }

    public int kept() {
        if (text.size == 0) return NONE;
        if (isFull()) return FULL;
        workAll();
        show(runs.mass(), runs.allWeight());
        return runs.remaining();
    }

    public int shown(int k, int draw) {
        int s = text.find(DRAWS, draw);
        if (s < 0) return BAD;
        if (isFull()) return FULL;
        workAll();
        int run = runs.nthRemaining(k);
        if (run < 0) return NONE;
        askedFor = text.statements[s].drawnIn(run);
        return 1;
    }

    public int apart(int question, int other) {
        if (text.find(QUESTIONS, question) < 0 || text.find(QUESTIONS, other) < 0) return BAD;
        if (isFull()) return FULL;
        workAll();
        return show(runs.difference(question, other), 2 * runs.mass());
    }

    // ---- what it rests on

    public int needs(int question, int s) {
        int ask = text.find(QUESTIONS, question);
        if (ask < 0 || s < 0 || s >= text.size) return BAD;
        return text.needsOf(ask) >> s & 1;
    }

    public int slice(int question) {
        int ask = text.find(QUESTIONS, question);
        return ask < 0 ? BAD : Integer.bitCount(text.needsOf(ask));
    }

    public int same(int question, int v) {
        int ask = text.find(QUESTIONS, question);
        if (ask < 0) return BAD;
        if (isFull()) return FULL;
        workAll();
        long part = runs.weightOf(question, v);
        long whole = runs.mass();
        runs.work(text, text.needsOf(ask), NONE, 0);
        long slicedWhole = runs.mass();
        if (whole == 0 || slicedWhole == 0) return NONE;
        return part * slicedWhole == runs.weightOf(question, v) * whole ? 1 : 0;
    }

    public int worth(int question, int v, int see) {
        int seeAt = text.find(SEES, see);
        if (text.find(QUESTIONS, question) < 0 || seeAt < 0) return BAD;
        if (isFull()) return FULL;
        workAll();
        long part = runs.weightOf(question, v);
        long whole = runs.mass();
        runs.work(text, ALL_STATEMENTS ^ 1 << seeAt, NONE, 0);
        long freePart = runs.weightOf(question, v);
        long freeWhole = runs.mass();
        return show(part * freeWhole - freePart * whole, whole * freeWhole);
    }

    public int sway(int question, int v, int draw, int a) {
        int coin = text.find(DRAWS, draw);
        if (text.find(QUESTIONS, question) < 0 || !canTurn(coin, a)) return BAD;
        if (isFull()) return FULL;
        runs.work(text, ALL_STATEMENTS, coin, a);
        return show(runs.weightOf(question, v), runs.mass());
    }

    public int worst(int question, int v, int draw, int low, int high) {
        int coin = text.find(DRAWS, draw);
        if (text.find(QUESTIONS, question) < 0 || !canTurn(coin, low) || !canTurn(coin, high)) return BAD;
        if (high < low || high > low + WORST_REACH) return BAD;
        if (isFull()) return FULL;
        int least = NONE;
        long leastPart = 0;
        long leastWhole = 0;
        for (int a = low; a <= high; a++) {
            runs.work(text, ALL_STATEMENTS, coin, a);
            long part = runs.weightOf(question, v);
            long whole = runs.mass();
            if (whole > 0 && (least == NONE || part * leastWhole < leastPart * whole)) {
                least = a;
                leastPart = part;
                leastWhole = whole;
            }
        }
        show(leastPart, leastWhole);
        return least;
    }

    public long above() {
        return board.above;
    }

    public long below() {
        return board.below;
    }

    public long digest() {
        long h = 17;
        for (int column = 0; column < COLUMN_LIMIT; column++) {
            h = digestOf(columns.of(column), h);
        }
        for (int i = 0; i < text.length; i++) {
            h = 31 * h + text.bytes[i];
        }
        return h;
    }

    public int clear() {
        int statements = text.size;
        columns.forget();
        text.empty();
        tapeSize = 0;
        faultCode = 0;
        askedFor = 0;
        board.set(0, 1);
        return statements;
    }

    private long digestOf(Row row, long start) {
        if (row == null) return 31 * start + NONE;
        long h = 31 * start + row.kind;
        h = 31 * h + row.cells.length;
        h = 31 * h + columns.leastWith(row);
        for (long cell : row.cells) {
            h = 31 * h + cell;
        }
        return h;
    }

    private boolean isFull() {
        return runs.machine.cameInAll() >= FINDING_LIMIT;
    }

    private void workAll() {
        runs.work(text, ALL_STATEMENTS, NONE, 0);
    }

    /** THE BOARD has a share of a whole; of nothing there is none. */
    private int show(long part, long whole) {
        if (whole == 0) return NONE;
        board.set(part, whole);
        return 1;
    }

    /** Whether the statement at this place is a coin that could be a of its b. */
    private boolean canTurn(int place, int a) {
        if (place < 0) return false;
        Statement draw = text.statements[place];
        return draw.word == COIN && a >= 0 && a <= draw.second;
    }

    private static boolean isKind(int kind) {
        return kind >= 0 && kind < KINDS;
    }

    private static boolean widens(int from, int to) {
        return from >= 0 && from < KINDS && (WIDENS[from] >> to & 1) == 1;
    }

    /**
     * What a value is once it has been of a KIND. All of them are kept as longs: what floats and
     * doubles come here are made of longs, so they are whole, and 2 to the 63rd, the only one that
     * no long is, comes again from the highest long.
     */
    private static long asKind(int kind, long v) {
        switch (kind) {
            case TRUTHS: return v != 0 ? 1 : 0;
            case BYTES: return (byte) v;
            case CHARS: return (char) v;
            case SHORTS: return (short) v;
            case INTS: return (int) v;
            case FLOATS: return (long) (float) v;
            case DOUBLES: return (long) (double) v;
            default: return v;
        }
    }

    /** CELLS of one KIND. */
    private static final class Row {
        final int kind;
        final long[] cells;

        Row(int kind, int n) {
            this.kind = kind;
            this.cells = new long[Math.max(0, n)];
        }

        boolean has(int i) {
            return i >= 0 && i < cells.length;
        }
    }

    /** The COLUMNS; several may have the very same ROW. */
    private static final class Columns {
        private final Row[] rows = new Row[COLUMN_LIMIT];

        boolean isColumn(int column) {
            return column >= 0 && column < COLUMN_LIMIT;
        }

        Row of(int column) {
            return column >= 0 && column < COLUMN_LIMIT ? rows[column] : null;
        }

        void give(int column, Row row) {
            if (column >= 0 && column < COLUMN_LIMIT) rows[column] = row;
        }

        int leastWith(Row row) {
            for (int column = 0; column < COLUMN_LIMIT; column++) {
                if (rows[column] == row) return column;
            }
            return NONE;
        }

        void forget() {
            for (int column = 0; column < COLUMN_LIMIT; column++) {
                rows[column] = null;
            }
        }
    }

    /** THE BOARD: a fraction in least terms. */
    private static final class Board {
        long above = 0;
        long below = 1;

        void set(long part, long whole) {
            long divisor = commonDivisor(Math.abs(part), whole);
            if (divisor == 0) return;
            above = part / divisor;
            below = whole / divisor;
        }

        private static long commonDivisor(long one, long other) {
            long high = one;
            long low = other;
            // Each second step halves the higher of the two, so 128 are enough for all longs.
            for (int n = 0; n < 128 && low != 0; n++) {
                long rest = high % low;
                high = low;
                low = rest;
            }
            return high;
        }
    }

    /** A statement of a text, used again by the texts that are read later. */
    private static final class Statement {
        int word;
        int begin;
        int number;
        int first;
        int second;
        long name;
        /** Its EXP is the text's steps from here up to, and without, there. */
        int from;
        int to;
        /** A bit for each statement whose NAME stands in it; a bit for each DRAW that it is or has. */
        int uses;
        int draws;
        /** How many RUNS one after another have the same value of this DRAW, as they are laid out now. */
        int stride;

        void start(int word, int begin, int from) {
            this.word = word;
            this.begin = begin;
            this.from = from;
            to = from;
            number = 0;
            first = 0;
            second = 0;
            name = 0;
            uses = 0;
            draws = 0;
            stride = 1;
        }

        boolean isDraw() {
            return word == COIN || word == DIE;
        }

        int group() {
            return isDraw() ? DRAWS : word - LET + LETS;
        }

        int choices() {
            if (word == COIN) return 2;
            return word == DIE ? Math.max(1, second) : 1;
        }

        int drawnIn(int run) {
            if (stride < 1) return 0;
            int choice = run / stride % choices();
            return word == DIE ? first + choice : choice;
        }

        /** What a RUN's WEIGHT is multiplied by if this coin is a of its b. */
        int weightIn(int run, int a) {
            if (word != COIN) return 1;
            return drawnIn(run) == 1 ? a : second - a;
        }
    }

    /** A text that was read, its EXPS compiled to steps; without statements: no text. */
    private static final class Text {
        final byte[] bytes = new byte[TAPE_LIMIT];
        final Statement[] statements = new Statement[STATEMENT_LIMIT];
        final int[] counts = new int[GROUPS];
        final int[] ops = new int[TAPE_LIMIT];
        final int[] args = new int[TAPE_LIMIT];
        int length;
        int size;
        int runs;
        int tokens;
        int steps;

        Text() {
            for (int s = 0; s < STATEMENT_LIMIT; s++) {
                statements[s] = new Statement();
            }
        }

        void empty() {
            length = 0;
            size = 0;
            runs = 0;
            tokens = 0;
            steps = 0;
            for (int group = 0; group < GROUPS; group++) {
                counts[group] = 0;
            }
        }

        void load(byte[] from, int n) {
            empty();
            length = Math.max(0, Math.min(n, Math.min(from.length, TAPE_LIMIT)));
            System.arraycopy(from, 0, bytes, 0, length);
            runs = 1;
        }

        /** Where the statement with a number among its group is; NONE. */
        int find(int group, int number) {
            for (int s = 0; s < size; s++) {
                if (statements[s].group() == group && statements[s].number == number) return s;
            }
            return NONE;
        }

        int named(long name) {
            for (int s = 0; s < size; s++) {
                if (statements[s].name == name) return s;
            }
            return NONE;
        }

        /** A step more: its place. No token makes more than one, so there is room for all. */
        int step(int op, int arg) {
            if (steps >= TAPE_LIMIT) return NONE;
            ops[steps] = op;
            args[steps] = arg;
            steps++;
            return steps - 1;
        }

        void aimHere(int step) {
            if (step >= 0 && step < steps) args[step] = steps;
        }

        boolean hasRoomFor(Statement next) {
            return runs * next.choices() <= RUN_LIMIT;
        }

        /** The statement that was begun behind the others is one of them. */
        void accept() {
            if (size >= STATEMENT_LIMIT) return;
            Statement next = statements[size];
            next.to = steps;
            next.number = counts[next.group()];
            counts[next.group()]++;
            runs *= next.choices();
            if (next.isDraw()) next.draws = 1 << size;
            size++;
        }

        /** How many RUNS the DRAWS that have a bit make, laid out so that the last of them changes first. */
        int layRuns(int worked) {
            if (size == 0) return 0;
            int stride = 1;
            for (int s = size - 1; s >= 0; s--) {
                if ((worked >> s & 1) == 0) continue;
                statements[s].stride = stride;
                stride *= statements[s].choices();
            }
            return stride;
        }

        /** A bit for each statement that a QUESTION NEEDS. */
        int needsOf(int ask) {
            int needed = 1 << ask;
            for (int round = 0; round < STATEMENT_LIMIT; round++) {
                needed |= calledFor(needed);
            }
            return needed;
        }

        private int calledFor(int needed) {
            int more = 0;
            int draws = 0;
            for (int s = 0; s < size; s++) {
                if ((needed >> s & 1) == 0) continue;
                more |= statements[s].uses;
                draws |= statements[s].draws;
            }
            for (int s = 0; s < size; s++) {
                if (statements[s].word == SEE && (statements[s].draws & draws) != 0) more |= 1 << s;
            }
            return more;
        }
    }

    /** Cuts the bytes of a text into TOKENS, up to its end or to the first place where none begins. */
    private static final class Scanner {
        private final long[] words = new long[WORD_COUNT];
        final int[] tokens = new int[TAPE_LIMIT + 1];
        final int[] begins = new int[TAPE_LIMIT + 1];
        final int[] numbers = new int[TAPE_LIMIT + 1];
        final long[] names = new long[TAPE_LIMIT + 1];
        /** How many there are; the end, or what is WRONG, stands behind them. */
        int size;
        private Text text;
        private int end;

        Scanner() {
            int word = 0;
            long key = 0;
            for (int i = 0; i < WORDS.length(); i++) {
                if (WORDS.charAt(i) != ' ') {
                    key = key << 8 | WORDS.charAt(i);
                } else if (word < WORD_COUNT) {
                    words[word] = key;
                    word++;
                    key = 0;
                }
            }
        }

        void scan(Text text) {
            this.text = text;
            end = 0;
            size = 0;
            while (size < tokens.length && scanToken()) size++;
        }

        /** Whether there is one. */
        private boolean scanToken() {
            while (end < text.length && isBlank(byteAtEnd())) end++;
            begins[size] = end;
            int first = byteAtEnd();
            if (end >= text.length) {
                tokens[size] = END;
            } else if (isLetter(first)) {
                scanName();
            } else if (isDigit(first)) {
                scanNumber();
            } else {
                tokens[size] = isSign(first) ? first : WRONG;
                end++;
            }
            return tokens[size] != END && tokens[size] != WRONG;
        }

        private void scanName() {
            int begin = end;
            long name = 0;
            while (end < text.length && (isLetter(byteAtEnd()) || isDigit(byteAtEnd()))) {
                name = name << 8 | byteAtEnd();
                end++;
            }
            names[size] = name;
            tokens[size] = end - begin > TOKEN_LENGTH ? WRONG : wordOrName(name);
        }

        private void scanNumber() {
            int begin = end;
            int number = 0;
            while (end < text.length && isDigit(byteAtEnd())) {
                number = 10 * number + byteAtEnd() - '0';
                end++;
            }
            numbers[size] = number;
            tokens[size] = end - begin > TOKEN_LENGTH ? WRONG : NUMBER;
        }

        private int wordOrName(long name) {
            for (int word = 0; word < WORD_COUNT; word++) {
                if (words[word] == name) return word;
            }
            return NAME;
        }

        private int byteAtEnd() {
            return end >= 0 && end < text.bytes.length ? text.bytes[end] : 0;
        }

        private static boolean isBlank(int b) {
            return b == 32 || b == 10;
        }

        private static boolean isLetter(int b) {
            return b >= 'a' && b <= 'z';
        }

        private static boolean isDigit(int b) {
            return b >= '0' && b <= '9';
        }

        private static boolean isSign(int b) {
            switch (b) {
                case ';': case '=': case '+': case '-': case '*': case '/':
                case '<': case '(': case ')': case '[': case ']':
                    return true;
                default:
                    return false;
            }
        }
    }

    /**
     * Reads a text from left to right. All that is asked of a token is looked at before the next
     * one is, so the FAULT that it stops at is the first. Its methods answer whether all is well.
     */
    private static final class Parser {
        private final Scanner scanner = new Scanner();
        private Text text;
        private Statement now;
        private int at;
        private int token;
        private int open;
        int faultCode;
        int faultPlace;

        boolean parse(Text draft) {
            text = draft;
            open = 0;
            faultCode = 0;
            faultPlace = 0;
            scanner.scan(text);
            at = 0;
            token = scanner.tokens[0];
            boolean going = parseStatement();
            for (int n = 0; n < STATEMENT_LIMIT && going && token != END; n++) {
                going = parseStatement();
            }
            text.tokens = scanner.size;
            return going;
        }

        private boolean parseStatement() {
            int word = token;
            if (word < COIN || word > ASK) return stop(MISPLACED);
            if (text.size >= STATEMENT_LIMIT) return stop(TOO_MANY);
            now = text.statements[text.size];
            now.start(word, scanner.begins[at], text.steps);
            advance();
            if (word <= LET && !parseTitle()) return false;
            if (!parseBody(word)) return false;
            if (token != ';') return stop(MISPLACED);
            if (!text.hasRoomFor(now)) return stop(TOO_MANY);
            text.accept();
            advance();
            return true;
        }

        private boolean parseTitle() {
            if (token != NAME) return stop(MISPLACED);
            if (text.named(scanner.names[at]) >= 0) return stop(NAME_TAKEN);
            now.name = scanner.names[at];
            advance();
            return pass('=');
        }

        private boolean parseBody(int word) {
            if (word == COIN) return parseChance();
            return word == DIE ? parseSpan() : parseExp();
        }

        private boolean parseChance() {
            if (!parseFirst(OF)) return false;
            int b = scanner.numbers[at];
            if (b < 1 || b > COIN_LIMIT || b < now.first) return stop(OUT_OF_BOUNDS);
            now.second = b;
            advance();
            return true;
        }

        private boolean parseSpan() {
            if (!parseFirst(TO)) return false;
            int reach = scanner.numbers[at] - now.first;
            if (reach < 0 || reach > DIE_REACH) return stop(OUT_OF_BOUNDS);
            now.second = reach + 1;
            advance();
            return true;
        }

        /** A NUMBER and a word, up to another NUMBER. */
        private boolean parseFirst(int word) {
            if (token != NUMBER) return stop(MISPLACED);
            now.first = scanner.numbers[at];
            advance();
            if (!pass(word)) return false;
            return token == NUMBER || stop(MISPLACED);
        }

        private boolean parseExp() {
            if (!parseSum()) return false;
            int sign = token;
            if (sign != '<' && sign != '=') return true;
            advance();
            if (!parseSum()) return false;
            text.step(sign, 0);
            return true;
        }

        private boolean parseSum() {
            boolean going = parseTerm();
            for (int n = 0; n < TAPE_LIMIT && going && (token == '+' || token == '-'); n++) {
                int sign = token;
                advance();
                going = parseTerm();
                text.step(sign, 0);
            }
            return going;
        }

        private boolean parseTerm() {
            boolean going = parseFactor();
            for (int n = 0; n < TAPE_LIMIT && going && (token == '*' || token == '/'); n++) {
                int sign = token;
                advance();
                going = parseFactor();
                text.step(sign, 0);
            }
            return going;
        }

        private boolean parseFactor() {
            switch (token) {
                case NUMBER: return parseNumber();
                case NAME: return parseName();
                case COL: return parseCell();
                case '(': return enter() && parseExp() && leaveBy(')');
                case '-': return parsePrefix(NEGATE);
                case FAIL: return parsePrefix(RAISE);
                case IF: return parseIf();
                case TRY: return parseTry();
                default: return stop(MISPLACED);
            }
        }

        private boolean parseNumber() {
            text.step(PUSH, scanner.numbers[at]);
            advance();
            return true;
        }

        private boolean parseName() {
            int s = text.named(scanner.names[at]);
            if (s < 0) return stop(NAME_UNKNOWN);
            text.step(RECALL, s);
            now.uses |= 1 << s;
            now.draws |= text.statements[s].draws;
            advance();
            return true;
        }

        private boolean parseCell() {
            advance();
            if (token != NUMBER) return stop(MISPLACED);
            int column = scanner.numbers[at];
            if (column >= COLUMN_LIMIT) return stop(OUT_OF_BOUNDS);
            advance();
            if (token != '[') return stop(MISPLACED);
            if (!enter() || !parseExp() || !leaveBy(']')) return false;
            text.step(CELL, column);
            return true;
        }

        private boolean parsePrefix(int op) {
            if (!enter() || !parseFactor()) return false;
            open--;
            text.step(op, 0);
            return true;
        }

        private boolean parseIf() {
            if (!enter() || !parseExp()) return false;
            int unless = text.step(UNLESS, 0);
            if (!pass(THEN) || !parseExp()) return false;
            int jump = text.step(JUMP, 0);
            text.aimHere(unless);
            if (!pass(ELSE) || !parseExp()) return false;
            text.aimHere(jump);
            open--;
            return true;
        }

        private boolean parseTry() {
            if (!enter()) return false;
            int guard = text.step(GUARD, 0);
            if (!parseExp()) return false;
            int leave = text.step(LEAVE, 0);
            text.aimHere(guard);
            if (!pass(ELSE) || !parseExp()) return false;
            text.aimHere(leave);
            open--;
            return true;
        }

        /** One more is open from this token on; that there are few keeps the recursion low, too. */
        private boolean enter() {
            if (open >= OPEN_LIMIT) return stop(TOO_DEEP);
            open++;
            advance();
            return true;
        }

        private boolean leaveBy(int sign) {
            open--;
            return pass(sign);
        }

        private boolean pass(int wanted) {
            if (token != wanted) return stop(MISPLACED);
            advance();
            return true;
        }

        /** The end, or what is WRONG, is never passed, so there is always a token at hand. */
        private void advance() {
            if (at < scanner.size) at++;
            token = scanner.tokens[at];
        }

        private boolean stop(int code) {
            faultCode = token == WRONG ? NO_TOKEN : code;
            faultPlace = scanner.begins[at];
            return false;
        }
    }

    /** Works EXPS step by step, and counts the FINDINGS that come. */
    private static final class Machine {
        /** At each level that can be open, three signs may wait for their right side. */
        private static final int STACK_LIMIT = 4 * (OPEN_LIMIT + 1);

        private final Columns columns;
        final int[] came = new int[RAISED + 1];
        /** By statement, what its NAME has: the value, or the FINDING by which it FAILED. */
        final int[] known = new int[STATEMENT_LIMIT];
        final int[] knownFailed = new int[STATEMENT_LIMIT];
        private final int[] stack = new int[STACK_LIMIT];
        private final int[] guardAims = new int[OPEN_LIMIT];
        private final int[] guardTops = new int[OPEN_LIMIT];
        private int top;
        private int guards;
        /** The FINDING by which the latest EXP FAILED; 0. */
        int failed;

        Machine(Columns columns) {
            this.columns = columns;
        }

        int cameInAll() {
            int sum = 0;
            for (int times : came) {
                sum += times;
            }
            return sum;
        }

        int workExp(Text text, Statement statement) {
            top = 0;
            guards = 0;
            failed = 0;
            int at = statement.from;
            // Steps only go ahead, so there are never more of them than a text can have.
            for (int n = 0; n < TAPE_LIMIT && at >= 0 && at < statement.to && at < TAPE_LIMIT; n++) {
                at = workStep(text.ops[at], text.args[at], at);
                if (failed == 0) continue;
                if (guards == 0) return 0;
                at = resume();
            }
            return pop();
        }

        private int workStep(int op, int arg, int at) {
            switch (op) {
                case PUSH: push(arg); break;
                case RECALL: recall(arg); break;
                case CELL: push(cellOf(arg, pop())); break;
                case NEGATE: push(-pop()); break;
                case RAISE: find(RAISED); break;
                case UNLESS: return pop() == 0 ? arg : at + 1;
                case JUMP: return arg;
                case GUARD: guard(arg); break;
                case LEAVE: guards = Math.max(0, guards - 1); return arg;
                default: combine(op); break;
            }
            return at + 1;
        }

        private void combine(int sign) {
            int right = pop();
            int left = pop();
            switch (sign) {
                case '+': push(left + right); break;
                case '-': push(left - right); break;
                case '*': push(left * right); break;
                case '<': push(left < right ? 1 : 0); break;
                case '=': push(left == right ? 1 : 0); break;
                default: push(right == 0 ? find(NOUGHT) : left / right); break;
            }
        }

        private int cellOf(int column, int i) {
            Row row = columns.of(column);
            if (row == null) return find(NOTHING);
            if (!row.has(i)) return find(BEYOND);
            if (!widens(row.kind, INTS)) return find(CAST);
            return (int) row.cells[i];
        }

        /** A NAME that FAILED passes that on, which is no FINDING more. */
        private void recall(int s) {
            if (s < 0 || s >= STATEMENT_LIMIT) return;
            failed = knownFailed[s];
            push(known[s]);
        }

        private int find(int finding) {
            if (finding > 0 && finding < came.length) came[finding]++;
            failed = finding;
            return 0;
        }

        private void guard(int aim) {
            if (guards >= OPEN_LIMIT) return;
            guardAims[guards] = aim;
            guardTops[guards] = top;
            guards++;
        }

        /** Goes on behind the innermost try's else, with what was on the stack ahead of the try. */
        private int resume() {
            guards--;
            failed = 0;
            top = guardTops[guards];
            return guardAims[guards];
        }

        private void push(int v) {
            if (top >= STACK_LIMIT) return;
            stack[top] = v;
            top++;
        }

        private int pop() {
            if (top <= 0) return 0;
            top--;
            return stack[top];
        }
    }

    /** Works all RUNS of a text and holds what came of each, till they are worked again. */
    private static final class Runs {
        final Machine machine;
        private final int[] weights = new int[RUN_LIMIT];
        private final int[] cutBy = new int[RUN_LIMIT];
        private final long[] outcomes = new long[STATEMENT_LIMIT * RUN_LIMIT];
        final long[] rising = new long[RUN_LIMIT];
        private int size;

        Runs(Machine machine) {
            this.machine = machine;
        }

        /**
         * As if the text had the statements alone that have a bit, its DRAWS too, and as if the one
         * at place coin were a of its b.
         */
        void work(Text text, int worked, int coin, int a) {
            size = Math.min(text.layRuns(worked), RUN_LIMIT);
            for (int run = 0; run < size; run++) {
                cutBy[run] = NONE;
                weights[run] = weigh(text, worked, run, coin, a);
                if (weights[run] > 0) workRun(text, worked, run);
            }
        }

        private int weigh(Text text, int worked, int run, int coin, int a) {
            int weight = 1;
            for (int s = 0; s < text.size; s++) {
                if ((worked >> s & 1) == 0) continue;
                Statement draw = text.statements[s];
                weight *= draw.weightIn(run, s == coin ? a : draw.first);
            }
            return weight;
        }

        private void workRun(Text text, int worked, int run) {
            for (int s = 0; s < text.size; s++) {
                if ((worked >> s & 1) == 0) continue;
                Statement now = text.statements[s];
                if (now.isDraw()) {
                    machine.known[s] = now.drawnIn(run);
                    machine.knownFailed[s] = 0;
                } else {
                    int v = machine.workExp(text, now);
                    if (now.word == SEE && (machine.failed != 0 || v == 0)) {
                        cutBy[run] = now.number;
                        return;
                    }
                    keep(now, s, run, v);
                }
            }
        }

        private void keep(Statement now, int s, int run, int v) {
            if (now.word == LET) {
                machine.known[s] = v;
                machine.knownFailed[s] = machine.failed;
            } else if (now.word == ASK) {
                outcomes[now.number * RUN_LIMIT + run] = machine.failed == 0 ? v : FAILED + machine.failed;
            }
        }

        private boolean remains(int run) {
            return weights[run] > 0 && cutBy[run] == NONE;
        }

        private long outcomeOf(int question, int run) {
            return outcomes[question * RUN_LIMIT + run];
        }

        long allWeight() {
            long sum = 0;
            for (int run = 0; run < size; run++) {
                sum += weights[run];
            }
            return sum;
        }

        long mass() {
            long sum = 0;
            for (int run = 0; run < size; run++) {
                if (remains(run)) sum += weights[run];
            }
            return sum;
        }

        int remaining() {
            int n = 0;
            for (int run = 0; run < size; run++) {
                if (remains(run)) n++;
            }
            return n;
        }

        int nthRemaining(int k) {
            int n = 0;
            for (int run = 0; run < size; run++) {
                if (!remains(run)) continue;
                if (n == k) return run;
                n++;
            }
            return NONE;
        }

        long weightCutBy(int see) {
            long sum = 0;
            for (int run = 0; run < size; run++) {
                if (cutBy[run] == see) sum += weights[run];
            }
            return sum;
        }

        long weightOf(int question, long outcome) {
            long sum = 0;
            for (int run = 0; run < size; run++) {
                if (remains(run) && outcomeOf(question, run) == outcome) sum += weights[run];
            }
            return sum;
        }

        private boolean hasValue(int question, int run) {
            return remains(run) && outcomeOf(question, run) < FAILED;
        }

        long weightOfValues(int question) {
            long sum = 0;
            for (int run = 0; run < size; run++) {
                if (hasValue(question, run)) sum += weights[run];
            }
            return sum;
        }

        long sumOfValues(int question) {
            long sum = 0;
            for (int run = 0; run < size; run++) {
                if (hasValue(question, run)) sum += weights[run] * outcomeOf(question, run);
            }
            return sum;
        }

        /** How many values a QUESTION has; these, rising, are in the row of that name. */
        int gather(int question) {
            int n = 0;
            for (int run = 0; run < size; run++) {
                if (hasValue(question, run)) n = enterRising(outcomeOf(question, run), n);
            }
            return n;
        }

        private int enterRising(long v, int n) {
            int at = 0;
            while (at < n && rising[at] < v) at++;
            if (at < n && rising[at] == v || n >= RUN_LIMIT) return n;
            for (int i = n; i > at; i--) {
                rising[i] = rising[i - 1];
            }
            rising[at] = v;
            return n + 1;
        }

        /** The sum, over all outcomes, of how far the WEIGHTS differ that two QUESTIONS give them. */
        long difference(int question, int other) {
            long sum = 0;
            for (int run = 0; run < size; run++) {
                if (!remains(run)) continue;
                if (isFirst(question, run)) {
                    long outcome = outcomeOf(question, run);
                    sum += Math.abs(weightOf(question, outcome) - weightOf(other, outcome));
                }
                // Outcomes that both have were counted above, at the first QUESTION's.
                if (weightOf(question, outcomeOf(other, run)) == 0) sum += weights[run];
            }
            return sum;
        }

        /** Whether no RUN ahead that REMAINS has the same outcome. */
        private boolean isFirst(int question, int run) {
            for (int earlier = 0; earlier < run; earlier++) {
                if (remains(earlier) && outcomeOf(question, earlier) == outcomeOf(question, run)) return false;
            }
            return true;
        }
    }
}
