/**
 * A ship's load book: sheets of cells with numbers and formulas, worked anew in order when something was changed.
 *
 * <p>The words in capitals are those of the document.
 */
public final class LoadBook {
    public static final int NONE = -1;

    private static final int CELLS = 256;
    private static final int SHEETS = 4;
    private static final int SHEET_CELLS = 64;
    private static final int TEXT_ROOM = 240;
    // A PRINTED text has no blanks, and each PART adds at most two brackets to what was told.
    private static final int PRINT_ROOM = 320;
    private static final int MOST_PARTS = 40;
    private static final int MOST_OPEN = 10;
    private static final int MOST_ARGUMENTS = 3;
    private static final int MOST_CONSTANTS = 5;
    private static final int MOST_FUNCTIONS = 8;
    private static final int MOST_FORMULAS = 48;
    private static final int MOST_STEPS = 1000;
    private static final int MOST_CALLS = 20;
    private static final int MOST_READS = 24;
    private static final int MOST_EDITIONS = 10;
    private static final int MOST_DECIMALS = 15;
    private static final int LONGEST_NAME = 8;
    private static final int LONGEST_WHOLE = 18;
    private static final int LONGEST_DECIMAL = 15;
    private static final int HALVINGS = 60;

    // What a call answers when it refuses.
    private static final int NO_SUCH = -1;
    private static final int NO_ROOM = -2;
    private static final int NO_WHAT = -2;
    private static final int NO_FORMULA = -3;
    private static final int NO_FAILING_CELL = -3;
    private static final int NO_EDITION = -3;
    private static final int FAULT_BASE = -100;

    // States of cells and CONSTANTS; LONG and DOUBLE are the sorts of VALUES too.
    private static final int EMPTY = 0;
    private static final int LONG = 1;
    private static final int DOUBLE = 2;
    private static final int FAILED = 3;
    private static final int ON_CYCLE = 4;
    private static final int HANGS = 5;
    private static final int TOLD = 6;

    // Kinds of failures.
    private static final int NO_FAILURE = 0;
    private static final int BY_DIVISION = 1;
    private static final int BY_INDEX = 2;
    private static final int BY_EMPTY = 3;
    private static final int BY_DEEP = 4;
    private static final int BY_BEYOND = 5;
    private static final int BY_NO_ROOT = 6;
    private static final int BY_TABLE = 7;
    private static final int BY_SPENT = 8;
    private static final int BY_CYCLE = 9;
    private static final int BY_SPOILED = 10;
    private static final int BY_SORT = 11;

    // FAULTS of a text.
    private static final int NO_FAULT = 0;
    private static final int NO_TOKEN_FAULT = 1;
    private static final int GRAMMAR_FAULT = 2;
    private static final int LIMIT_FAULT = 3;
    private static final int NAME_FAULT = 4;
    private static final int HEAD_FAULT = 5;

    // Kinds of TOKENS; a SIGN of one byte is its own kind.
    private static final int AT_MOST = 128;
    private static final int UNLIKE = 129;
    private static final int NAME = 130;
    private static final int REF = 131;
    private static final int WHOLE = 132;
    private static final int DECIMAL = 133;
    private static final int END = 134;
    private static final int NO_TOKEN = 135;
    private static final int IF = 140;
    private static final int TRY = 141;
    private static final int SUM = 142;
    private static final int LEAST = 143;
    private static final int MOST = 144;
    private static final int COUNT = 145;
    private static final int AT = 146;
    private static final int LINE = 147;
    private static final int AREA = 148;
    private static final int ROOT = 149;
    private static final int CUT = 150;
    private static final int REAL = 151;

    // An E's orders are the kinds of its TOKENS, and these.
    private static final int NEGATE = 160;
    private static final int ARGUMENT = 161;
    private static final int CONSTANT = 162;
    private static final int CALL = 163;
    private static final int JUMP = 164;
    private static final int TRIED = 165;

    // The WORDS from if to real, in the order of their kinds, as the bytes of their letters.
    private static final long[] WORDS = {
        0x6966L, 0x747279L, 0x73756dL, 0x6c65617374L, 0x6d6f7374L, 0x636f756e74L,
        0x6174L, 0x6c696e65L, 0x61726561L, 0x726f6f74L, 0x637574L, 0x7265616cL
    };

    private final Text text;
    private final Text out;
    private final Cells cells;
    private final Functions functions;
    private final Constants[] constants;
    private final Parser parser;
    private final Recalculation recalculation;

    public LoadBook() {
        text = new Text(TEXT_ROOM);
        out = new Text(PRINT_ROOM);
        cells = new Cells();
        functions = new Functions();
        constants = new Constants[SHEETS];
        for (int sheet = 0; sheet < SHEETS; sheet++) {
            constants[sheet] = new Constants();
        }
        parser = new Parser(text, functions, constants);
        recalculation = new Recalculation(cells, functions, constants);
    }

    public int type(long bytes) {
        int more = 0;
        for (int shift = 0; shift < 64; shift += 8) {
            if (((bytes >>> shift) & 255L) != 0L) {
                more++;
            }
        }
        if (text.length + more > TEXT_ROOM) {
            return NO_ROOM;
        }
        for (int shift = 0; shift < 64; shift += 8) {
            int next = (int) ((bytes >>> shift) & 255L);
            if (next != 0) {
                text.add(next);
            }
        }
        return text.length;
    }

    public int wipe() {
        int had = text.length;
        text.clear();
        return had;
    }

    public int whole(int cell, long v) {
        if (!isCell(cell)) {
            return NO_SUCH;
        }
        parser.giveBack(cells.tell(cell));
        cells.setWhole(cell, v);
        return 1;
    }

    public int number(int cell, long n, int e) {
        if (!isCell(cell)) {
            return NO_SUCH;
        }
        if (e < 0 || e > MOST_DECIMALS) {
            return NO_WHAT;
        }
        parser.giveBack(cells.tell(cell));
        cells.setReal(cell, Doubles.decimal(n, e));
        return 1;
    }

    public int empty(int cell) {
        if (!isCell(cell)) {
            return NO_SUCH;
        }
        if (cells.states[cell] == EMPTY) {
            return 0;
        }
        parser.giveBack(cells.tell(cell));
        cells.setWithoutValue(cell, EMPTY);
        return 1;
    }

    public int formula(int cell) {
        if (!isCell(cell)) {
            return NO_SUCH;
        }
        parser.readFormula(cell / SHEET_CELLS);
        text.clear();
        if (parser.faultNumber != NO_FAULT) {
            return FAULT_BASE - parser.faultNumber;
        }
        if (cells.formulas[cell] == null && cells.formulaCount >= MOST_FORMULAS) {
            return NO_ROOM;
        }
        Expression told = parser.handOver();
        parser.giveBack(cells.tell(cell));
        cells.setFormula(cell, told);
        return told.parts;
    }

    public int function() {
        parser.readFunction();
        text.clear();
        if (parser.faultNumber != NO_FAULT) {
            return FAULT_BASE - parser.faultNumber;
        }
        int number = parser.ownNumber;
        if (number >= MOST_FUNCTIONS) {
            return NO_ROOM;
        }
        parser.giveBack(functions.put(number, parser.ownName, parser.argumentCount, parser.handOver()));
        return number;
    }

    public int constant(int sheet) {
        if (!isSheet(sheet)) {
            return NO_SUCH;
        }
        parser.readConstant(sheet);
        text.clear();
        if (parser.faultNumber != NO_FAULT) {
            return FAULT_BASE - parser.faultNumber;
        }
        int number = parser.ownNumber;
        if (number >= MOST_CONSTANTS) {
            return NO_ROOM;
        }
        parser.giveBack(constants[sheet].put(number, parser.ownName, parser.handOver()));
        return number;
    }

    public int fault() {
        return parser.faultPlace;
    }

    public int print(int cell) {
        if (!isCell(cell)) {
            return NO_SUCH;
        }
        Expression told = cells.formulas[cell];
        if (told == null) {
            return NO_FORMULA;
        }
        out.clear();
        out.addPiece(told.printed, 0, told.printed.length);
        return out.length;
    }

    public int sign(int i) {
        return out.at(i);
    }

    public int take() {
        if (out.length > TEXT_ROOM) {
            return NO_ROOM;
        }
        text.clear();
        text.addPiece(out, 0, out.length);
        return text.length;
    }

    public int recalculate() {
        recalculation.begin();
        for (int sheet = 0; sheet < SHEETS; sheet++) {
            recalculation.doConstants(sheet);
        }
        recalculation.findCells();
        for (int n = 0; n < MOST_FORMULAS && recalculation.left != 0L; n++) {
            recalculation.doLeast();
        }
        cells.keepEdition();
        return recalculation.doneCount;
    }

    public int state(int cell) {
        return isCell(cell) ? cells.states[cell] : NO_SUCH;
    }

    public long value(int cell) {
        return isCell(cell) ? cells.values[cell] : 0L;
    }

    public int failure(int cell, int what) {
        if (!isCell(cell)) {
            return NO_FAILING_CELL;
        }
        if (what < 0 || what > 2) {
            return NO_WHAT;
        }
        int state = cells.states[cell];
        if (state != FAILED && state != ON_CYCLE && state != HANGS) {
            return NONE;
        }
        if (what == 0) {
            return cells.kinds[cell];
        }
        return what == 1 ? cells.firsts[cell] : cells.causes[cell];
    }

    public int done(int i) {
        return i >= 0 && i < recalculation.doneCount ? recalculation.doneCells[i] : NONE;
    }

    public int needs(int cell, int i) {
        if (!isCell(cell) || i < 0) {
            return NONE;
        }
        Expression told = cells.formulas[cell];
        return told == null ? NONE : told.neededCell(i);
    }

    public int neededBy(int cell, int i) {
        if (!isCell(cell) || i < 0) {
            return NONE;
        }
        int before = 0;
        for (int other = 0; other < CELLS; other++) {
            Expression told = cells.formulas[other];
            if (told != null && told.hasNeed(cell)) {
                if (before == i) {
                    return other;
                }
                before++;
            }
        }
        return NONE;
    }

    public int cycle(int i, int k) {
        return recalculation.cellOfCycle(i, k);
    }

    public int trace(int cell, int i) {
        if (!isCell(cell)) {
            return NONE;
        }
        Expression told = cells.formulas[cell];
        return told != null && i >= 0 && i < told.readCount ? told.reads[i] : NONE;
    }

    public long named(int sheet, int i, int what) {
        if (!isSheet(sheet) || i < 0 || i >= constants[sheet].size) {
            return NO_SUCH;
        }
        Constants own = constants[sheet];
        switch (what) {
            case 0:
                return own.states[i];
            case 1:
                return own.values[i];
            case 2:
                return own.kinds[i];
            default:
                return NO_WHAT;
        }
    }

    public long old(int e, int cell, int what) {
        if (!isCell(cell)) {
            return NO_SUCH;
        }
        if (what != 0 && what != 1) {
            return NO_WHAT;
        }
        if (e < 1 || e > cells.editions || e <= cells.editions - MOST_EDITIONS) {
            return NO_EDITION;
        }
        int kept = (e - 1) % MOST_EDITIONS;
        return what == 0 ? cells.oldStates[kept][cell] : cells.oldValues[kept][cell];
    }

    public int count(int what) {
        if (what >= 7 && what < 7 + SHEETS) {
            return constants[what - 7].size;
        }
        if (what >= 11 && what < 11 + SHEETS) {
            return constants[what - 11].times;
        }
        switch (what) {
            case 0:
                return cells.editions;
            case 1:
                return cells.formulaCount;
            case 2:
                return functions.size;
            case 3:
                return recalculation.doneCount;
            case 4:
                return recalculation.cycleCount;
            case 5:
                return text.length;
            case 6:
                return out.length;
            default:
                return NONE;
        }
    }

    private static boolean isCell(int cell) {
        return cell >= 0 && cell < CELLS;
    }

    private static boolean isSheet(int sheet) {
        return sheet >= 0 && sheet < SHEETS;
    }

    private static int findName(long[] names, int size, long name) {
        for (int i = 0; i < size && i < names.length; i++) {
            if (names[i] == name) {
                return i;
            }
        }
        return NONE;
    }

    /** A row of bytes: THE TEXT, OUT, or a FORMULA as it is PRINTED. */
    private static final class Text {
        private final byte[] bytes;
        private int length;

        Text(int room) {
            bytes = new byte[Math.max(room, 0)];
        }

        void clear() {
            length = 0;
        }

        int at(int i) {
            return i >= 0 && i < length ? bytes[i] & 255 : NONE;
        }

        void add(int next) {
            if (length < bytes.length) {
                bytes[length] = (byte) next;
                length++;
            }
        }

        void addPiece(Text other, int from, int to) {
            int number = to - from;
            if (from < 0 || to > other.length || number <= 0 || length + number > bytes.length) {
                return;
            }
            System.arraycopy(other.bytes, from, bytes, length, number);
            length += number;
        }

        void insert(int place, int next) {
            if (place < 0 || place > length || length >= bytes.length) {
                return;
            }
            System.arraycopy(bytes, place, bytes, place + 1, length - place);
            bytes[place] = (byte) next;
            length++;
        }
    }

    /** The TOKENS of THE TEXT, read all at once up to a place at which none begins, and looked at one by one. */
    private static final class Tokens {
        private static final int ROOM = TEXT_ROOM + 1;

        private final Text text;
        private final int[] kinds = new int[ROOM];
        private final int[] places = new int[ROOM];
        private final int[] ends = new int[ROOM];
        private final int[] behinds = new int[ROOM];
        private final long[] contents = new long[ROOM];
        private int size;
        private int at;
        private int kind;
        private int place;
        private int end;
        private int behindPoint;
        // A NAME's letters, the cell of a REF, or all digits.
        private long content;

        Tokens(Text text) {
            this.text = text;
        }

        void readAll() {
            size = 0;
            end = 0;
            kind = NAME;
            while (size < ROOM && kind != END && kind != NO_TOKEN) {
                readOne();
                kinds[size] = kind;
                places[size] = place;
                ends[size] = end;
                behinds[size] = behindPoint;
                contents[size] = content;
                size++;
            }
            lookAt(0);
        }

        void next() {
            lookAt(at + 1);
        }

        private void lookAt(int i) {
            if (i >= 0 && i < size) {
                at = i;
                kind = kinds[i];
                place = places[i];
                end = ends[i];
                behindPoint = behinds[i];
                content = contents[i];
            }
        }

        private void readOne() {
            place = endOfRun(end, ' ', ' ');
            end = place + 1;
            behindPoint = 0;
            content = 0L;
            int first = text.at(place);
            if (first == NONE) {
                kind = END;
                end = place;
            } else if (first >= 'a' && first <= 'z') {
                readName();
            } else if (first >= 'A' && first <= 'D') {
                readRef(first - 'A');
            } else if (isDigit(first)) {
                readDigits();
            } else {
                readSign(first);
            }
        }

        private int endOfRun(int from, int low, int high) {
            int i = from;
            while (i < text.length && text.at(i) >= low && text.at(i) <= high) {
                i++;
            }
            return i;
        }

        private static boolean isDigit(int b) {
            return b >= '0' && b <= '9';
        }

        private void readName() {
            end = endOfRun(place, 'a', 'z');
            if (end - place > LONGEST_NAME) {
                kind = NO_TOKEN;
                return;
            }
            for (int i = place; i < end; i++) {
                content = (content << 8) | text.at(i);
            }
            kind = NAME;
            for (int word = 0; word < WORDS.length; word++) {
                if (WORDS[word] == content) {
                    kind = IF + word;
                }
            }
        }

        private void readRef(int sheet) {
            int column = text.at(place + 1) - 'a';
            int row = text.at(place + 2) - '0';
            if (column < 0 || column > 7 || row < 0 || row > 7) {
                kind = NO_TOKEN;
                return;
            }
            kind = REF;
            content = SHEET_CELLS * sheet + 8 * row + column;
            end = place + 3;
        }

        private void readDigits() {
            end = endOfRun(place, '0', '9');
            int length = end - place;
            kind = length > LONGEST_WHOLE ? NO_TOKEN : WHOLE;
            if (text.at(end) == '.' && isDigit(text.at(end + 1))) {
                int point = end;
                end = endOfRun(point + 1, '0', '9');
                behindPoint = end - point - 1;
                kind = length + behindPoint > LONGEST_DECIMAL ? NO_TOKEN : DECIMAL;
            }
            for (int i = place; i < end; i++) {
                if (text.at(i) != '.') {
                    content = 10L * content + (text.at(i) - '0');
                }
            }
        }

        private void readSign(int first) {
            int second = text.at(end);
            if (first == '<' && (second == '=' || second == '>')) {
                kind = second == '=' ? AT_MOST : UNLIKE;
                end++;
                return;
            }
            switch (first) {
                case '+':
                case '-':
                case '*':
                case '/':
                case '%':
                case '(':
                case ')':
                case ',':
                case ':':
                case '<':
                case '=':
                    kind = first;
                    break;
                default:
                    kind = NO_TOKEN;
                    break;
            }
        }
    }

    /**
     * An E as it was told: a row of orders for the machine, its PRINTED form and what it needs.
     *
     * <p>STEPS of PARTS are taken ahead of what is in them, so each order holds how many PARTS begin with it.
     */
    private static final class Expression {
        // Only if and try have two orders, and either has two more PARTS at least in it.
        private static final int ROOM = 64;

        private final int[] orders = new int[ROOM];
        private final int[] steps = new int[ROOM];
        private final int[] firsts = new int[ROOM];
        private final int[] seconds = new int[ROOM];
        private final long[] digits = new long[ROOM];
        private int size;
        private int parts;
        private int stepsAhead;
        private final Text printed = new Text(PRINT_ROOM);
        private final int[] areas = new int[MOST_PARTS];
        private int areaCount;
        private final long[] needed = new long[SHEETS];
        private int called;
        private final int[] reads = new int[MOST_READS];
        private int readCount;

        void clear() {
            size = 0;
            parts = 0;
            stepsAhead = 0;
            printed.clear();
            areaCount = 0;
            for (int sheet = 0; sheet < SHEETS; sheet++) {
                needed[sheet] = 0L;
            }
            called = 0;
            readCount = 0;
        }

        int emit(int order, int first, int second) {
            if (size >= ROOM) {
                return NONE;
            }
            orders[size] = order;
            steps[size] = stepsAhead;
            firsts[size] = first;
            seconds[size] = second;
            digits[size] = 0L;
            stepsAhead = 0;
            size++;
            return size - 1;
        }

        void emitDigits(int order, long told, int behindPoint) {
            int at = emit(order, behindPoint, 0);
            if (at >= 0) {
                digits[at] = told;
            }
        }

        /** A sign between comes to light behind its left side, but takes its STEP ahead of it. */
        void addStepAt(int order) {
            if (order >= 0 && order < size) {
                steps[order]++;
            }
        }

        void jumpHere(int order) {
            if (order >= 0 && order < size) {
                firsts[order] = size;
            }
        }

        void addNeeds(int area) {
            if (areaCount >= MOST_PARTS) {
                return;
            }
            areas[areaCount] = area;
            areaCount++;
            int number = cellsOf(area);
            for (int i = 0; i < number; i++) {
                int cell = cellOf(area, i);
                needed[cell / SHEET_CELLS] |= 1L << (cell % SHEET_CELLS);
            }
        }

        boolean hasNeed(int cell) {
            return isCell(cell) && (needed[cell / SHEET_CELLS] & (1L << (cell % SHEET_CELLS))) != 0L;
        }

        boolean needsOneOf(long[] marked) {
            for (int sheet = 0; sheet < SHEETS && sheet < marked.length; sheet++) {
                if ((needed[sheet] & marked[sheet]) != 0L) {
                    return true;
                }
            }
            return false;
        }

        int neededCell(int i) {
            int before = 0;
            for (int n = 0; n < areaCount; n++) {
                int number = cellsOf(areas[n]);
                for (int k = 0; k < number; k++) {
                    int cell = cellOf(areas[n], k);
                    if (!standsBefore(n, cell)) {
                        if (before == i) {
                            return cell;
                        }
                        before++;
                    }
                }
            }
            return NONE;
        }

        private boolean standsBefore(int area, int cell) {
            for (int n = 0; n < area; n++) {
                if (holds(areas[n], cell)) {
                    return true;
                }
            }
            return false;
        }

        void noteRead(int cell) {
            if (readCount < MOST_READS) {
                reads[readCount] = cell;
                readCount++;
            }
        }

        static int areaOf(int first, int last) {
            return first + CELLS * last;
        }

        static int cellsOf(int area) {
            int rows = (area / CELLS) / 8 - (area % CELLS) / 8 + 1;
            int columns = (area / CELLS) % 8 - area % 8 + 1;
            return rows * columns;
        }

        static int cellOf(int area, int i) {
            int columns = Math.max((area / CELLS) % 8 - area % 8 + 1, 1);
            return area % CELLS + 8 * (i / columns) + i % columns;
        }

        private static boolean holds(int area, int cell) {
            int first = area % CELLS;
            int last = area / CELLS;
            return cell / 8 >= first / 8 && cell / 8 <= last / 8 && cell % 8 >= first % 8 && cell % 8 <= last % 8;
        }
    }

    /** Reads THE TEXT as a FORMULA, a CONSTANT or a FUNCTION; the FAULT it finds stands until the next reading. */
    private static final class Parser {
        private static final int SPARE_ROOM = 64;
        private static final int ATOM_LEVEL = 3;

        private final Text text;
        private final Tokens tokens;
        private final Functions functions;
        private final Constants[] constants;
        private final Expression[] spare;
        private int spareCount;
        private Expression made;
        private int faultNumber;
        private int faultPlace;
        private int lateNumber;
        private int latePlace;
        private int open;
        private boolean inFormula;
        private Constants known;
        private int knownCount;
        private final long[] arguments;
        private int argumentCount;
        private long ownName;
        private int ownNumber;

        Parser(Text text, Functions functions, Constants[] constants) {
            this.text = text;
            this.functions = functions;
            this.constants = constants;
            tokens = new Tokens(text);
            spare = new Expression[SPARE_ROOM];
            made = new Expression();
            arguments = new long[MOST_ARGUMENTS];
            faultPlace = NONE;
        }

        /** What is not used any more is written over by later readings, so that a long run needs no more room. */
        void giveBack(Expression unused) {
            if (unused != null && spareCount < SPARE_ROOM) {
                spare[spareCount] = unused;
                spareCount++;
            }
        }

        Expression handOver() {
            Expression full = made;
            if (spareCount > 0) {
                spareCount--;
                made = spare[spareCount];
            } else {
                made = new Expression();
            }
            return full;
        }

        void readFormula(int sheet) {
            begin();
            if (isSheet(sheet)) {
                known = constants[sheet];
                knownCount = known.size;
            }
            inFormula = true;
            readLevel(0);
            finish();
        }

        void readConstant(int sheet) {
            begin();
            ownName = tokens.content;
            pass(NAME, tokens.place);
            if (isSheet(sheet)) {
                known = constants[sheet];
                ownNumber = known.numberFor(ownName);
                knownCount = ownNumber;
            }
            pass('=', tokens.place);
            readLevel(0);
            finish();
        }

        void readFunction() {
            begin();
            int place = tokens.place;
            ownName = tokens.content;
            pass(NAME, tokens.place);
            ownNumber = functions.numberFor(ownName);
            pass('(', tokens.place);
            readArgument();
            for (int n = 1; n < MOST_ARGUMENTS && tokens.kind == ','; n++) {
                pass(',', tokens.place);
                readArgument();
            }
            pass(')', tokens.place);
            pass('=', tokens.place);
            if (ownNumber < functions.size && functions.argumentsOf(ownNumber) != argumentCount) {
                refuseLate(HEAD_FAULT, place);
            }
            readLevel(0);
            finish();
        }

        private void begin() {
            made.clear();
            faultNumber = NO_FAULT;
            faultPlace = NONE;
            lateNumber = NO_FAULT;
            latePlace = NONE;
            open = 0;
            inFormula = false;
            known = null;
            knownCount = 0;
            argumentCount = 0;
            tokens.readAll();
            if (tokens.kind == NO_TOKEN) {
                refuse(NO_TOKEN_FAULT);
            }
        }

        private void finish() {
            if (tokens.kind != END) {
                refuse(GRAMMAR_FAULT);
            }
            if (faultNumber == NO_FAULT) {
                faultNumber = lateNumber;
                faultPlace = latePlace;
            }
        }

        /** Behind a FAULT there are no more TOKENS, so that all that is under way ends. */
        private void refuse(int number) {
            if (faultNumber == NO_FAULT) {
                faultNumber = number;
                faultPlace = tokens.place;
            }
            tokens.kind = NO_TOKEN;
        }

        /** FAULTS 4 and 5 count only if the whole text has none of the others. */
        private void refuseLate(int number, int place) {
            if (lateNumber == NO_FAULT || place < latePlace) {
                lateNumber = number;
                latePlace = place;
            }
        }

        /** Goes behind a TOKEN, if it is of that kind; what is in it from a place on is PRINTED. */
        private void pass(int kind, int from) {
            if (faultNumber != NO_FAULT || tokens.kind != kind) {
                refuse(GRAMMAR_FAULT);
                return;
            }
            made.printed.addPiece(text, from, tokens.end);
            tokens.next();
            if (tokens.kind == NO_TOKEN) {
                refuse(NO_TOKEN_FAULT);
            }
        }

        private void countPart(int steps) {
            if (made.parts >= MOST_PARTS) {
                refuse(LIMIT_FAULT);
            } else {
                made.parts++;
                made.stepsAhead += steps;
            }
        }

        private void countOpen() {
            if (open >= MOST_OPEN) {
                refuse(LIMIT_FAULT);
            } else {
                open++;
            }
        }

        private void enterBracket(int from) {
            if (tokens.kind == '(') {
                countOpen();
            }
            pass('(', from);
        }

        private void leaveBracket(int from) {
            pass(')', from);
            open--;
        }

        private void readArgument() {
            if (findName(arguments, argumentCount, tokens.content) != NONE) {
                refuseLate(HEAD_FAULT, tokens.place);
            }
            if (argumentCount < MOST_ARGUMENTS) {
                arguments[argumentCount] = tokens.content;
                argumentCount++;
            }
            pass(NAME, tokens.place);
        }

        /** Level 0 is an E, 1 a SUM, 2 a PRODUCT, 3 an ATOM; OPEN ones keep the depth low. */
        private void readLevel(int level) {
            if (level >= ATOM_LEVEL) {
                readAtom();
                return;
            }
            int leftOrder = made.size;
            int leftByte = made.printed.length;
            readLevel(level + 1);
            int mostSigns = level == 0 ? 1 : MOST_PARTS;
            for (int n = 0; n < mostSigns && levelOf(tokens.kind) == level; n++) {
                int sign = tokens.kind;
                countPart(0);
                made.addStepAt(leftOrder);
                made.printed.insert(leftByte, '(');
                pass(sign, tokens.place);
                readLevel(level + 1);
                made.printed.add(')');
                made.emit(sign, 0, 0);
            }
        }

        private static int levelOf(int kind) {
            switch (kind) {
                case '<':
                case AT_MOST:
                case '=':
                case UNLIKE:
                    return 0;
                case '+':
                case '-':
                    return 1;
                case '*':
                case '/':
                case '%':
                    return 2;
                default:
                    return NONE;
            }
        }

        private void readAtom() {
            int kind = tokens.kind;
            if (kind == '-') {
                readNegative();
            } else if (kind == '(') {
                enterBracket(tokens.end);
                readLevel(0);
                leaveBracket(tokens.end);
            } else if (kind == WHOLE || kind == DECIMAL) {
                readNumeral();
            } else if (kind == REF) {
                readRef();
            } else if (kind == NAME) {
                readName();
            } else if (kind >= IF && kind <= REAL) {
                readWord(kind);
            } else {
                refuse(GRAMMAR_FAULT);
            }
        }

        private void readNegative() {
            countPart(1);
            countOpen();
            made.printed.add('(');
            pass('-', tokens.place);
            readAtom();
            made.printed.add(')');
            made.emit(NEGATE, 0, 0);
            open--;
        }

        private void readNumeral() {
            int from = tokens.place;
            int lastAhead = tokens.kind == DECIMAL ? tokens.end - tokens.behindPoint - 2 : tokens.end - 1;
            while (from < lastAhead && text.at(from) == '0') {
                from++;
            }
            countPart(1);
            made.emitDigits(tokens.kind, tokens.content, tokens.behindPoint);
            pass(tokens.kind, from);
        }

        private void readRef() {
            int cell = (int) tokens.content;
            if (inFormula) {
                made.addNeeds(Expression.areaOf(cell, cell));
            } else {
                refuseLate(NAME_FAULT, tokens.place);
            }
            countPart(1);
            made.emit(REF, cell, 0);
            pass(REF, tokens.place);
        }

        private void readName() {
            int place = tokens.place;
            long name = tokens.content;
            countPart(1);
            pass(NAME, place);
            if (tokens.kind == '(') {
                enterBracket(tokens.place);
                readCall(name, place);
                leaveBracket(tokens.place);
                return;
            }
            int number = known == null
                ? findName(arguments, argumentCount, name)
                : findName(known.names, knownCount, name);
            if (number == NONE) {
                refuseLate(NAME_FAULT, place);
            }
            made.emit(known == null ? ARGUMENT : CONSTANT, number, 0);
        }

        private void readCall(long name, int place) {
            readLevel(0);
            int given = 1;
            while (given < MOST_ARGUMENTS && tokens.kind == ',') {
                pass(',', tokens.place);
                readLevel(0);
                given++;
            }
            made.emit(CALL, lookUpFunction(name, given, place), given);
        }

        /** A FUNCTION that is being told has no CONSTANTS known to it, and counts as told. */
        private int lookUpFunction(long name, int given, int place) {
            boolean own = known == null && name == ownName;
            int number = own ? ownNumber : findName(functions.names, functions.size, name);
            int wanted = own ? argumentCount : functions.argumentsOf(number);
            if (number == NONE || wanted != given) {
                refuseLate(NAME_FAULT, place);
            } else {
                made.called |= 1 << number;
            }
            return number;
        }

        private void readWord(int word) {
            int area = 0;
            countPart(1);
            pass(word, tokens.place);
            enterBracket(tokens.place);
            switch (word) {
                case IF:
                    readIf();
                    break;
                case TRY:
                    readTry();
                    break;
                case ROOT:
                    readRoot();
                    break;
                case CUT:
                case REAL:
                    readLevel(0);
                    made.emit(word, 0, 0);
                    break;
                case AT:
                    area = readArea();
                    pass(',', tokens.place);
                    readLevel(0);
                    made.emit(AT, area, 0);
                    break;
                case LINE:
                    readLevel(0);
                    pass(',', tokens.place);
                    area = readArea();
                    pass(',', tokens.place);
                    made.emit(LINE, area, readArea());
                    break;
                case AREA:
                    area = readArea();
                    pass(',', tokens.place);
                    made.emit(AREA, area, readArea());
                    break;
                default:
                    made.emit(word, readArea(), 0);
                    break;
            }
            leaveBracket(tokens.place);
        }

        private void readIf() {
            readLevel(0);
            int choice = made.emit(IF, 0, 0);
            pass(',', tokens.place);
            readLevel(0);
            int end = made.emit(JUMP, 0, 0);
            made.jumpHere(choice);
            pass(',', tokens.place);
            readLevel(0);
            made.jumpHere(end);
        }

        private void readTry() {
            int begin = made.emit(TRY, 0, 0);
            readLevel(0);
            int end = made.emit(TRIED, 0, 0);
            made.jumpHere(begin);
            pass(',', tokens.place);
            readLevel(0);
            made.jumpHere(end);
        }

        private void readRoot() {
            int place = tokens.place;
            long name = tokens.content;
            pass(NAME, place);
            pass(',', tokens.place);
            readLevel(0);
            pass(',', tokens.place);
            readLevel(0);
            made.emit(ROOT, lookUpFunction(name, 1, place), 0);
        }

        private int readArea() {
            int place = tokens.place;
            int first = (int) tokens.content;
            if (tokens.kind == REF) {
                countPart(0);
            }
            pass(REF, place);
            pass(':', tokens.place);
            int last = (int) tokens.content;
            pass(REF, tokens.place);
            if (faultNumber != NO_FAULT) {
                return 0;
            }
            boolean sound = first / SHEET_CELLS == last / SHEET_CELLS
                && first / 8 <= last / 8 && first % 8 <= last % 8;
            if (!inFormula || !sound) {
                refuseLate(NAME_FAULT, place);
                return 0;
            }
            int area = Expression.areaOf(first, last);
            made.addNeeds(area);
            return area;
        }
    }

    /** The FUNCTIONS of the book. */
    private static final class Functions {
        private final long[] names = new long[MOST_FUNCTIONS];
        private final int[] arguments = new int[MOST_FUNCTIONS];
        private final Expression[] bodies = new Expression[MOST_FUNCTIONS];
        private int size;
        private int told;

        int numberFor(long name) {
            int number = findName(names, size, name);
            return number == NONE ? size : number;
        }

        int argumentsOf(int number) {
            return number >= 0 && number < size ? arguments[number] : 0;
        }

        Expression bodyOf(int number) {
            return number >= 0 && number < size ? bodies[number] : null;
        }

        Expression put(int number, long name, int argumentCount, Expression body) {
            if (number < 0 || number > size || number >= MOST_FUNCTIONS) {
                return body;
            }
            Expression before = bodies[number];
            names[number] = name;
            arguments[number] = argumentCount;
            bodies[number] = body;
            size = Math.max(size, number + 1);
            told |= 1 << number;
            return before;
        }

        /** The FUNCTIONS that were told, and those that reach one of them, as bits. */
        int touched() {
            int found = told;
            for (int round = 0; round < size; round++) {
                for (int i = 0; i < size; i++) {
                    Expression body = bodies[i];
                    if (body != null && (body.called & found) != 0) {
                        found |= 1 << i;
                    }
                }
            }
            return found;
        }
    }

    /** The CONSTANTS of a SHEET. */
    private static final class Constants {
        private final long[] names = new long[MOST_CONSTANTS];
        private final Expression[] bodies = new Expression[MOST_CONSTANTS];
        private final int[] states = new int[MOST_CONSTANTS];
        private final long[] values = new long[MOST_CONSTANTS];
        private final double[] reals = new double[MOST_CONSTANTS];
        private final int[] kinds = new int[MOST_CONSTANTS];
        private int size;
        private boolean told;
        private int spoiledBy;
        private int times;

        int numberFor(long name) {
            int number = findName(names, size, name);
            return number == NONE ? size : number;
        }

        Expression put(int number, long name, Expression body) {
            if (number < 0 || number > size || number >= MOST_CONSTANTS) {
                return body;
            }
            Expression before = bodies[number];
            names[number] = name;
            bodies[number] = body;
            size = Math.max(size, number + 1);
            forget(number);
            told = true;
            return before;
        }

        private void forget(int number) {
            states[number] = EMPTY;
            values[number] = 0L;
            reals[number] = 0.0;
            kinds[number] = NO_FAILURE;
        }

        boolean isChanged(int touchedFunctions) {
            if (told) {
                return true;
            }
            for (int i = 0; i < size; i++) {
                Expression body = bodies[i];
                if (body != null && (body.called & touchedFunctions) != 0) {
                    return true;
                }
            }
            return false;
        }

        void forgetAll() {
            times++;
            told = false;
            spoiledBy = NO_FAILURE;
            for (int i = 0; i < size; i++) {
                forget(i);
            }
        }

        void settle(int number, Machine machine) {
            kinds[number] = machine.kind;
            spoiledBy = machine.kind;
            if (machine.kind != NO_FAILURE) {
                states[number] = FAILED;
                return;
            }
            Values result = machine.values;
            states[number] = result.sortOf(0);
            reals[number] = result.realOf(0);
            values[number] = states[number] == LONG ? result.wholeOf(0) : Doubles.bitsOf(result.realOf(0));
        }
    }

    /** All cells: what they are now, and what they were in the latest EDITIONS. */
    private static final class Cells {
        private final int[] states = new int[CELLS];
        private final long[] values = new long[CELLS];
        private final double[] reals = new double[CELLS];
        private final int[] kinds = new int[CELLS];
        private final int[] firsts = new int[CELLS];
        private final int[] causes = new int[CELLS];
        private final Expression[] formulas = new Expression[CELLS];
        private int formulaCount;
        private final long[] told = new long[SHEETS];
        private final byte[][] oldStates = new byte[MOST_EDITIONS][CELLS];
        private final long[][] oldValues = new long[MOST_EDITIONS][CELLS];
        private int editions;

        /** A cell that is told loses its FORMULA, which is answered. */
        Expression tell(int cell) {
            told[cell / SHEET_CELLS] |= 1L << (cell % SHEET_CELLS);
            Expression before = formulas[cell];
            if (before != null) {
                formulas[cell] = null;
                formulaCount--;
            }
            return before;
        }

        void setFormula(int cell, Expression formula) {
            formulas[cell] = formula;
            formulaCount++;
            setWithoutValue(cell, TOLD);
        }

        void setWithoutValue(int cell, int state) {
            states[cell] = state;
            values[cell] = 0L;
        }

        void setWhole(int cell, long v) {
            states[cell] = LONG;
            values[cell] = v;
        }

        void setReal(int cell, double d) {
            states[cell] = DOUBLE;
            values[cell] = Doubles.bitsOf(d);
            reals[cell] = d;
        }

        void setFailure(int cell, int state, int kind, int first, int cause) {
            setWithoutValue(cell, state);
            kinds[cell] = kind;
            firsts[cell] = first;
            causes[cell] = cause;
        }

        void keepEdition() {
            int kept = editions % MOST_EDITIONS;
            byte[] keptStates = oldStates[kept];
            for (int cell = 0; cell < CELLS; cell++) {
                keptStates[cell] = (byte) states[cell];
            }
            System.arraycopy(values, 0, oldValues[kept], 0, CELLS);
            editions++;
            for (int sheet = 0; sheet < SHEETS; sheet++) {
                told[sheet] = 0L;
            }
        }
    }

    /** The VALUES that an E's orders work on, the latest one on top. */
    private static final class Values {
        // Whatever puts a VALUE here has taken a STEP for it.
        private static final int ROOM = MOST_STEPS + 1;

        private final int[] sorts = new int[ROOM];
        private final long[] wholes = new long[ROOM];
        private final double[] reals = new double[ROOM];
        private int size;

        void cutTo(int newSize) {
            if (newSize >= 0 && newSize < size) {
                size = newSize;
            }
        }

        void pushWhole(long v) {
            if (size < ROOM) {
                sorts[size] = LONG;
                wholes[size] = v;
                size++;
            }
        }

        void pushReal(double d) {
            if (size < ROOM) {
                sorts[size] = DOUBLE;
                reals[size] = d;
                size++;
            }
        }

        void pushCopy(int i) {
            if (sortOf(i) == LONG) {
                pushWhole(wholeOf(i));
            } else {
                pushReal(realOf(i));
            }
        }

        private void setWhole(int i, long v) {
            if (i >= 0 && i < size) {
                sorts[i] = LONG;
                wholes[i] = v;
            }
        }

        void setReal(int i, double d) {
            if (i >= 0 && i < size) {
                sorts[i] = DOUBLE;
                reals[i] = d;
            }
        }

        /** The top one takes the place of i and of all behind it. */
        void moveTopTo(int i) {
            int top = size - 1;
            if (i < 0 || i > top) {
                return;
            }
            sorts[i] = sorts[top];
            wholes[i] = wholes[top];
            reals[i] = reals[top];
            size = i + 1;
        }

        int sortOf(int i) {
            return i >= 0 && i < size ? sorts[i] : EMPTY;
        }

        long wholeOf(int i) {
            return i >= 0 && i < size ? wholes[i] : 0L;
        }

        double realOf(int i) {
            if (i < 0 || i >= size) {
                return 0.0;
            }
            return sorts[i] == LONG ? (double) wholes[i] : reals[i];
        }

        boolean isZero(int i) {
            return sortOf(i) == LONG ? wholeOf(i) == 0L : realOf(i) == 0.0;
        }

        boolean isBelow(int i, int other) {
            if (sortOf(i) == LONG && sortOf(other) == LONG) {
                return wholeOf(i) < wholeOf(other);
            }
            return realOf(i) < realOf(other);
        }

        void negateTop() {
            int top = size - 1;
            if (sortOf(top) == LONG) {
                setWhole(top, 0L - wholeOf(top));
            } else {
                setReal(top, realOf(top) * -1.0);
            }
        }

        void cutTop() {
            int top = size - 1;
            if (sortOf(top) == DOUBLE) {
                setWhole(top, (long) realOf(top));
            }
        }

        /** The two on top give one; the answer is the kind with which that FAILS, or NO_FAILURE. */
        int combine(int sign) {
            int left = size - 2;
            int right = size - 1;
            int kind;
            if (sortOf(left) == LONG && sortOf(right) == LONG) {
                kind = combineWholes(sign, left, wholeOf(left), wholeOf(right));
            } else {
                kind = combineReals(sign, left, realOf(left), realOf(right));
            }
            cutTo(right);
            return kind;
        }

        private int combineWholes(int sign, int left, long x, long y) {
            if (y == 0L && (sign == '/' || sign == '%')) {
                return BY_DIVISION;
            }
            switch (sign) {
                case '+':
                    setWhole(left, x + y);
                    break;
                case '-':
                    setWhole(left, x - y);
                    break;
                case '*':
                    setWhole(left, x * y);
                    break;
                case '/':
                    setWhole(left, x / y);
                    break;
                case '%':
                    setWhole(left, x % y);
                    break;
                default:
                    setWhole(left, holds(sign, x < y, x == y) ? 1L : 0L);
                    break;
            }
            return NO_FAILURE;
        }

        private int combineReals(int sign, int left, double x, double y) {
            if (y == 0.0 && (sign == '/' || sign == '%')) {
                return BY_DIVISION;
            }
            double result = 0.0;
            switch (sign) {
                case '+':
                    result = x + y;
                    break;
                case '-':
                    result = x - y;
                    break;
                case '*':
                    result = x * y;
                    break;
                case '/':
                    result = x / y;
                    break;
                case '%':
                    result = Doubles.remainder(x, y);
                    break;
                default:
                    setWhole(left, holds(sign, x < y, x == y) ? 1L : 0L);
                    return NO_FAILURE;
            }
            setReal(left, result);
            return Doubles.isInfinite(result) ? BY_BEYOND : NO_FAILURE;
        }

        private static boolean holds(int sign, boolean less, boolean alike) {
            switch (sign) {
                case '<':
                    return less;
                case AT_MOST:
                    return less || alike;
                case '=':
                    return alike;
                default:
                    return !alike;
            }
        }

        /** As combine('+'), which would bring the calls under a sum too deep. */
        int addTop() {
            int left = size - 2;
            int right = size - 1;
            if (sortOf(left) == LONG && sortOf(right) == LONG) {
                setWhole(left, wholeOf(left) + wholeOf(right));
            } else {
                setReal(left, realOf(left) + realOf(right));
            }
            cutTo(right);
            return Doubles.isInfinite(realOf(left)) ? BY_BEYOND : NO_FAILURE;
        }
    }

    /**
     * Works out an E, order by order.
     *
     * <p>CALLS under way and tries are kept in rows of its own: 20 CALLS of long E's would go too deep for Java's.
     */
    private static final class Machine {
        // Orders that take no STEP stand behind ones that did, so this is never reached.
        private static final int MOST_ORDERS = 1000000;
        // At most ten tries are open in an E, and 21 E's are under way.
        private static final int MOST_TRIES = MOST_OPEN * (MOST_CALLS + 1);

        private final Cells cells;
        private final Functions functions;
        private final Values values = new Values();
        private Constants constants;
        private Expression outermost;
        private Expression code;
        private int next;
        private int argumentsAt;
        private int stepsLeft;
        private int kind;
        private int first;
        private int cause;
        private boolean hangs;
        private final Expression[] callers = new Expression[MOST_CALLS];
        // Of the CALLS: where the caller goes on, its ARGUMENTS, the number in a root, and 1 if f of low is below 0.
        private final int[][] frames = new int[4][MOST_CALLS];
        private int calls;
        // Of the tries: where y begins, how many VALUES and CALLS there were.
        private final int[][] tries = new int[3][MOST_TRIES];
        private int tryCount;
        private final double[] xs = new double[SHEET_CELLS];
        private final double[] ys = new double[SHEET_CELLS];

        Machine(Cells cells, Functions functions) {
            this.cells = cells;
            this.functions = functions;
        }

        void workOut(Expression whole, Constants own) {
            begin(whole, own);
            boolean goesOn = whole != null;
            for (int n = 0; goesOn && n < MOST_ORDERS; n++) {
                if (kind != NO_FAILURE) {
                    goesOn = goToTry();
                } else if (next < code.size) {
                    int at = next;
                    int order = code.orders[at];
                    next++;
                    if (!spend(code.steps[at])) {
                        goesOn = false;
                    } else if (order < NAME) {
                        kind = values.combine(order);
                    } else if (order >= IF && order <= REAL) {
                        followWord(order, code.firsts[at], code.seconds[at]);
                    } else {
                        follow(order, at, code.firsts[at]);
                    }
                } else if (calls > 0) {
                    comeBack();
                } else {
                    goesOn = false;
                }
            }
        }

        private void begin(Expression whole, Constants own) {
            outermost = whole;
            code = whole;
            constants = own;
            next = 0;
            argumentsAt = 0;
            stepsLeft = MOST_STEPS;
            calls = 0;
            tryCount = 0;
            values.cutTo(0);
            fail(NO_FAILURE);
        }

        private void fail(int newKind) {
            kind = newKind;
            first = NONE;
            cause = 0;
            hangs = false;
        }

        private boolean goToTry() {
            if (tryCount < 1 || (kind == BY_SPENT && !hangs)) {
                return false;
            }
            tryCount--;
            if (calls > tries[2][tryCount]) {
                calls = tries[2][tryCount];
                code = callers[calls];
                argumentsAt = frames[1][calls];
            }
            next = tries[0][tryCount];
            values.cutTo(tries[1][tryCount]);
            fail(NO_FAILURE);
            return true;
        }

        private boolean spend(int steps) {
            if (stepsLeft < steps) {
                stepsLeft = 0;
                fail(BY_SPENT);
                return false;
            }
            stepsLeft -= steps;
            return true;
        }

        private void follow(int order, int at, int operand) {
            switch (order) {
                case WHOLE:
                    values.pushWhole(code.digits[at]);
                    break;
                case DECIMAL:
                    values.pushReal(Doubles.decimal(code.digits[at], operand));
                    break;
                case REF:
                    read(operand, false);
                    break;
                case CONSTANT:
                    pushConstant(operand);
                    break;
                case ARGUMENT:
                    values.pushCopy(argumentsAt + operand);
                    break;
                case NEGATE:
                    values.negateTop();
                    break;
                case CALL:
                    beginCall(operand, code.seconds[at], NONE, 0);
                    break;
                case TRIED:
                    tryCount--;
                    next = operand;
                    break;
                default:
                    next = operand;
                    break;
            }
        }

        private void followWord(int word, int operand, int second) {
            switch (word) {
                case IF:
                    choose(operand);
                    break;
                case TRY:
                    beginTry(operand);
                    break;
                case CUT:
                    values.cutTop();
                    break;
                case REAL:
                    values.setReal(values.size - 1, values.realOf(values.size - 1));
                    break;
                case ROOT:
                    beginRoot();
                    break;
                case AT:
                    readAt(operand);
                    break;
                case LINE:
                case AREA:
                    workOutTable(word, operand, second);
                    break;
                default:
                    gather(word, operand);
                    break;
            }
        }

        private void pushFinite(double d) {
            if (Doubles.isInfinite(d)) {
                fail(BY_BEYOND);
            } else {
                values.pushReal(d);
            }
        }

        private void pushConstant(int number) {
            if (constants == null || number < 0 || number >= constants.size) {
                return;
            }
            if (constants.states[number] == LONG) {
                values.pushWhole(constants.values[number]);
            } else {
                values.pushReal(constants.reals[number]);
            }
        }

        private void choose(int otherwise) {
            int top = values.size - 1;
            if (values.isZero(top)) {
                next = otherwise;
            }
            values.cutTo(top);
        }

        private void beginTry(int otherwise) {
            if (tryCount >= MOST_TRIES) {
                fail(BY_SPENT);
                return;
            }
            tries[0][tryCount] = otherwise;
            tries[1][tryCount] = values.size;
            tries[2][tryCount] = calls;
            tryCount++;
        }

        private void beginCall(int function, int arguments, int rootCall, int lowBelow) {
            Expression body = functions.bodyOf(function);
            if (calls >= MOST_CALLS || body == null) {
                fail(BY_DEEP);
                return;
            }
            callers[calls] = code;
            frames[0][calls] = next;
            frames[1][calls] = argumentsAt;
            frames[2][calls] = rootCall;
            frames[3][calls] = lowBelow;
            calls++;
            argumentsAt = values.size - arguments;
            code = body;
            next = 0;
        }

        private void comeBack() {
            calls--;
            int argument = argumentsAt;
            code = callers[calls];
            next = frames[0][calls];
            argumentsAt = frames[1][calls];
            if (frames[2][calls] == NONE) {
                values.moveTopTo(argument);
            } else {
                goOnWithRoot(argument, frames[2][calls], frames[3][calls]);
            }
        }

        private void beginRoot() {
            int high = values.size - 1;
            int low = high - 1;
            values.setReal(low, values.realOf(low));
            values.setReal(high, values.realOf(high));
            callForRoot(values.realOf(low), 0, 0);
        }

        /** The order that is under way is the root's, so its FUNCTION stands there. */
        private void callForRoot(double x, int rootCall, int lowBelow) {
            if (next < 1 || next > code.size || !spend(1)) {
                return;
            }
            values.pushReal(x);
            beginCall(code.firsts[next - 1], 1, rootCall, lowBelow);
        }

        /** Call 0 was for f of low, 1 for f of high, the others halve; low and high stand ahead of the ARGUMENT. */
        private void goOnWithRoot(int argument, int rootCall, int lowBelow) {
            int below = values.realOf(values.size - 1) < 0.0 ? 1 : 0;
            double x = values.realOf(argument);
            int high = argument - 1;
            int low = argument - 2;
            values.cutTo(argument);
            if (rootCall == 0) {
                callForRoot(values.realOf(high), 1, below);
                return;
            }
            if (rootCall > 1) {
                values.setReal(below == lowBelow ? low : high, x);
            } else if (below == lowBelow) {
                fail(BY_NO_ROOT);
                return;
            }
            double middle = Doubles.middle(values.realOf(low), values.realOf(high));
            if (rootCall > HALVINGS) {
                values.cutTo(low);
                pushFinite(middle);
            } else if (Doubles.isInfinite(middle)) {
                fail(BY_BEYOND);
            } else {
                callForRoot(middle, rootCall + 1, lowBelow);
            }
        }

        /** Whether there is a VALUE; it is on top then. */
        private boolean read(int cell, boolean passesEmpty) {
            if (outermost == null || !isCell(cell)) {
                return false;
            }
            outermost.noteRead(cell);
            switch (cells.states[cell]) {
                case LONG:
                    values.pushWhole(cells.values[cell]);
                    return true;
                case DOUBLE:
                    values.pushReal(cells.reals[cell]);
                    return true;
                case EMPTY:
                    if (!passesEmpty) {
                        fail(BY_EMPTY);
                    }
                    return false;
                default:
                    kind = cells.kinds[cell];
                    first = cells.firsts[cell];
                    cause = cells.causes[cell];
                    hangs = true;
                    return false;
            }
        }

        private void readAt(int area) {
            int top = values.size - 1;
            long i = values.wholeOf(top);
            if (values.sortOf(top) == DOUBLE) {
                fail(BY_SORT);
            } else if (i < 0L || i >= Expression.cellsOf(area)) {
                fail(BY_INDEX);
            } else if (spend(1)) {
                values.cutTo(top);
                read(Expression.cellOf(area, (int) i), false);
            }
        }

        private void gather(int word, int area) {
            int number = Expression.cellsOf(area);
            int there = 0;
            for (int i = 0; i < number && kind == NO_FAILURE; i++) {
                if (spend(1) && read(Expression.cellOf(area, i), true)) {
                    there++;
                    gatherTop(word, there);
                }
            }
            if (kind != NO_FAILURE) {
                return;
            }
            if (word == COUNT) {
                values.pushWhole(there);
            } else if (there == 0 && word == SUM) {
                values.pushWhole(0L);
            } else if (there == 0) {
                fail(BY_EMPTY);
            }
        }

        private void gatherTop(int word, int there) {
            int top = values.size - 1;
            if (word == COUNT) {
                values.cutTo(top);
            } else if (there > 1 && word == SUM) {
                kind = values.addTop();
            } else if (there > 1) {
                boolean better = word == LEAST ? values.isBelow(top, top - 1) : values.isBelow(top - 1, top);
                if (better) {
                    values.moveTopTo(top - 1);
                } else {
                    values.cutTo(top);
                }
            }
        }

        private void workOutTable(int word, int xArea, int yArea) {
            if (!readRow(xArea, xs) || !readRow(yArea, ys)) {
                return;
            }
            int number = Expression.cellsOf(xArea);
            if (number != Expression.cellsOf(yArea) || number < 2 || number > SHEET_CELLS) {
                fail(BY_TABLE);
            } else if (word == AREA) {
                pushFinite(Doubles.area(xs, ys, number));
            } else if (!Doubles.rises(xs, number)) {
                fail(BY_TABLE);
            } else {
                int top = values.size - 1;
                double x = values.realOf(top);
                values.cutTo(top);
                pushFinite(Doubles.line(x, xs, ys, number));
            }
        }

        private boolean readRow(int area, double[] row) {
            int number = Expression.cellsOf(area);
            for (int i = 0; i < number && i < row.length; i++) {
                if (!spend(1) || !read(Expression.cellOf(area, i), false)) {
                    return false;
                }
                int top = values.size - 1;
                row[i] = values.realOf(top);
                values.cutTo(top);
            }
            return true;
        }
    }

    /** Finds what is CHANGED and does it in order; FORMULAS are bits here, by the numbers of their cells. */
    private static final class Recalculation {
        private final Cells cells;
        private final Functions functions;
        private final Constants[] constants;
        private final Machine machine;
        private int touched;
        private int changedSheets;
        // CHANGED cells that are not DONE yet.
        private long left;
        private final int[] formulaCells = new int[MOST_FORMULAS];
        private int formulaCount;
        private final long[] direct = new long[MOST_FORMULAS];
        private final long[] reached = new long[MOST_FORMULAS];
        private final int[] firstOfCycle = new int[MOST_FORMULAS];
        private final int[] doneCells = new int[MOST_FORMULAS];
        private int doneCount;
        private final int[] cycleCells = new int[MOST_FORMULAS];
        private final int[] cycleEnds = new int[MOST_FORMULAS];
        private int cycleCount;

        Recalculation(Cells cells, Functions functions, Constants[] constants) {
            this.cells = cells;
            this.functions = functions;
            this.constants = constants;
            machine = new Machine(cells, functions);
        }

        void begin() {
            touched = functions.touched();
            functions.told = 0;
            changedSheets = 0;
            doneCount = 0;
        }

        void doConstants(int sheet) {
            if (!isSheet(sheet) || !constants[sheet].isChanged(touched)) {
                return;
            }
            Constants own = constants[sheet];
            changedSheets |= 1 << sheet;
            own.forgetAll();
            for (int i = 0; i < own.size && own.spoiledBy == NO_FAILURE; i++) {
                machine.workOut(own.bodies[i], own);
                own.settle(i, machine);
            }
        }

        void findCells() {
            listFormulas();
            findCycles();
            findChanged();
        }

        void doLeast() {
            int i = leastReady();
            int cell = formulaCells[i];
            Expression formula = cells.formulas[cell];
            Constants own = constants[cell / SHEET_CELLS];
            left &= ~(1L << i);
            if (formula == null || doneCount >= MOST_FORMULAS) {
                return;
            }
            doneCells[doneCount] = cell;
            doneCount++;
            formula.readCount = 0;
            if (firstOfCycle[i] != NONE) {
                cells.setFailure(cell, ON_CYCLE, BY_CYCLE, firstOfCycle[i], 0);
            } else if (own.spoiledBy != NO_FAILURE) {
                cells.setFailure(cell, FAILED, BY_SPOILED, cell, own.spoiledBy);
            } else {
                machine.workOut(formula, own);
                settle(cell);
            }
        }

        int cellOfCycle(int i, int k) {
            if (i < 0 || i >= cycleCount || k < 0) {
                return NONE;
            }
            int begin = i == 0 ? 0 : cycleEnds[i - 1];
            return k < cycleEnds[i] - begin ? cycleCells[begin + k] : NONE;
        }

        private void listFormulas() {
            formulaCount = 0;
            for (int cell = 0; cell < CELLS && formulaCount < MOST_FORMULAS; cell++) {
                if (cells.formulas[cell] != null) {
                    formulaCells[formulaCount] = cell;
                    formulaCount++;
                }
            }
            for (int i = 0; i < formulaCount; i++) {
                direct[i] = neededFormulas(cells.formulas[formulaCells[i]]);
            }
        }

        private long neededFormulas(Expression formula) {
            long found = 0L;
            for (int i = 0; i < formulaCount && formula != null; i++) {
                if (formula.hasNeed(formulaCells[i])) {
                    found |= 1L << i;
                }
            }
            return found;
        }

        private static boolean isIn(long bits, int i) {
            return ((bits >>> i) & 1L) != 0L;
        }

        private void findCycles() {
            System.arraycopy(direct, 0, reached, 0, formulaCount);
            for (int over = 0; over < formulaCount; over++) {
                for (int i = 0; i < formulaCount; i++) {
                    if (isIn(reached[i], over)) {
                        reached[i] |= reached[over];
                    }
                }
            }
            for (int i = 0; i < formulaCount; i++) {
                firstOfCycle[i] = NONE;
            }
            cycleCount = 0;
            int end = 0;
            for (int i = 0; i < formulaCount; i++) {
                if (isIn(reached[i], i) && firstOfCycle[i] == NONE) {
                    end = listCycle(i, end);
                    cycleEnds[cycleCount] = end;
                    cycleCount++;
                }
            }
        }

        private int listCycle(int least, int begin) {
            int end = begin;
            for (int i = least; i < formulaCount && end < MOST_FORMULAS; i++) {
                if (isIn(reached[least], i) && isIn(reached[i], least)) {
                    firstOfCycle[i] = formulaCells[least];
                    cycleCells[end] = formulaCells[i];
                    end++;
                }
            }
            return end;
        }

        /** What reaches a CHANGED cell by its needs is CHANGED too. */
        private void findChanged() {
            long changed = 0L;
            for (int i = 0; i < formulaCount; i++) {
                if (isChangedItself(formulaCells[i])) {
                    changed |= 1L << i;
                }
            }
            left = changed;
            for (int i = 0; i < formulaCount; i++) {
                if ((reached[i] & changed) != 0L) {
                    left |= 1L << i;
                }
            }
        }

        private boolean isChangedItself(int cell) {
            Expression formula = cells.formulas[cell];
            if (formula == null) {
                return false;
            }
            return cells.states[cell] == TOLD
                || (formula.called & touched) != 0
                || (changedSheets & (1 << (cell / SHEET_CELLS))) != 0
                || formula.needsOneOf(cells.told);
        }

        private int leastReady() {
            for (int i = 0; i < formulaCount; i++) {
                if (isIn(left, i) && (firstOfCycle[i] != NONE || (direct[i] & left) == 0L)) {
                    return i;
                }
            }
            return 0;
        }

        private void settle(int cell) {
            Values result = machine.values;
            if (machine.kind != NO_FAILURE && machine.hangs) {
                cells.setFailure(cell, HANGS, machine.kind, machine.first, machine.cause);
            } else if (machine.kind != NO_FAILURE) {
                cells.setFailure(cell, FAILED, machine.kind, cell, 0);
            } else if (result.sortOf(0) == LONG) {
                cells.setWhole(cell, result.wholeOf(0));
            } else {
                cells.setReal(cell, result.realOf(0));
            }
        }
    }

    /** What Java's library would do for DOUBLES. */
    private static final class Doubles {
        private Doubles() {
        }

        static double decimal(long digits, int behindPoint) {
            double ten = 1.0;
            for (int i = 0; i < behindPoint && i < MOST_DECIMALS; i++) {
                ten = ten * 10.0;
            }
            return (double) digits / ten;
        }

        static boolean isInfinite(double d) {
            return d > 0x1.fffffffffffffp1023 || d < -0x1.fffffffffffffp1023;
        }

        static double middle(double low, double high) {
            double width = high - low;
            return isInfinite(width) ? width : low + width * 0.5;
        }

        static boolean rises(double[] xs, int size) {
            for (int i = 1; i < size && i < xs.length; i++) {
                if (xs[i] <= xs[i - 1]) {
                    return false;
                }
            }
            return true;
        }

        /** Where the way to the answer is infinite, the answer is. */
        static double line(double x, double[] xs, double[] ys, int size) {
            int last = Math.min(size, Math.min(xs.length, ys.length)) - 1;
            if (last < 1) {
                return 0.0;
            }
            if (x <= xs[0]) {
                return ys[0];
            }
            if (x >= xs[last]) {
                return ys[last];
            }
            int i = 0;
            while (i < last - 1 && xs[i + 1] <= x) {
                i++;
            }
            double width = xs[i + 1] - xs[i];
            double height = ys[i + 1] - ys[i];
            if (isInfinite(width) || width == 0.0) {
                return width;
            }
            double t = (x - xs[i]) / width;
            return isInfinite(height) ? height : ys[i] + height * t;
        }

        /** Where the way to the answer is infinite, the answer is. */
        static double area(double[] xs, double[] ys, int size) {
            double all = 0.0;
            for (int i = 1; i < size && i < xs.length && i < ys.length && !isInfinite(all); i++) {
                double width = xs[i] - xs[i - 1];
                double height = ys[i - 1] + ys[i];
                if (isInfinite(width)) {
                    return width;
                }
                if (isInfinite(height)) {
                    return height;
                }
                double product = width * height;
                all = isInfinite(product) ? product : all + product / 2.0;
            }
            return all;
        }

        /** The 0 that has a sign shows it only as a divisor. */
        static long bitsOf(double d) {
            if (d == 0.0) {
                return 1.0 / d < 0.0 ? Long.MIN_VALUE : 0L;
            }
            long bits = bitsOfPositive(d < 0.0 ? d * -1.0 : d);
            return d < 0.0 ? bits | Long.MIN_VALUE : bits;
        }

        /** Brings a finite DOUBLE to a whole one of 53 bits (or fewer, if it is too small) and a power of 2. */
        private static long bitsOfPositive(double d) {
            double a = d;
            int power = 0;
            for (int n = 0; n < 40 && a >= 0x1p85; n++) {
                a = a * 0x1p-32;
                power += 32;
            }
            for (int n = 0; n < 40 && a >= 0x1p53; n++) {
                a = a * 0.5;
                power++;
            }
            for (int n = 0; n < 40 && a < 0x1p20 && power >= -1042; n++) {
                a = a * 0x1p32;
                power -= 32;
            }
            for (int n = 0; n < 64 && a < 0x1p52 && power > -1074; n++) {
                a = a * 2.0;
                power--;
            }
            return ((long) (power + 1074) << 52) + (long) a;
        }

        /** What is left of x by y, which is not 0, by the whole numbers of their bits: so it is exact. */
        static double remainder(double x, double y) {
            double positiveX = x < 0.0 ? x * -1.0 : x;
            double positiveY = y < 0.0 ? y * -1.0 : y;
            if (positiveX < positiveY) {
                return x;
            }
            long bitsX = bitsOfPositive(positiveX);
            long bitsY = bitsOfPositive(positiveY);
            long divisor = wholeIn(bitsY);
            if (divisor == 0L) {
                return x;
            }
            long left = wholeIn(bitsX) % divisor;
            // 53 bits and ten more are still a positive LONG.
            for (int shift = powerIn(bitsX) - powerIn(bitsY); shift > 0; shift -= 10) {
                left = (left << Math.min(shift, 10)) % divisor;
            }
            double result = timesPowerOfTwo((double) left, powerIn(bitsY));
            return x < 0.0 ? result * -1.0 : result;
        }

        private static long wholeIn(long bits) {
            long fraction = bits & 0xfffffffffffffL;
            return (bits >>> 52) == 0L ? fraction : fraction | 0x10000000000000L;
        }

        private static int powerIn(long bits) {
            return Math.max((int) (bits >>> 52), 1) - 1075;
        }

        private static double timesPowerOfTwo(double d, int power) {
            double result = d;
            int left = power;
            for (; left >= 32; left -= 32) {
                result = result * 0x1p32;
            }
            for (; left > 0; left--) {
                result = result * 2.0;
            }
            for (; left <= -32; left += 32) {
                result = result * 0x1p-32;
            }
            for (; left < 0; left++) {
                result = result * 0.5;
            }
            return result;
        }
    }
}
