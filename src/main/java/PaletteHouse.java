import java.util.Arrays;

/** A compiler's last pass over functions in strict SSA: judging, liveness, colouring, spilling, code and runs. */
public final class PaletteHouse {
    public static final int NONE = -1;

    private static final int TAPE_MOST = 4000;
    private static final int FEED_BYTES = 20;
    private static final int INPUT_MOST = 50;
    private static final int OUTPUT_KEPT = 100;
    private static final int MEMORY_SIZE = 64;
    private static final int FUEL_MOST = 5000;
    private static final int FIT_MOST = 150;
    private static final int TOKENS_MOST = 1200;
    private static final int BLOCKS_MOST = 30;
    private static final int PARAMETERS_MOST = 8;
    private static final int TEXT_VALUES_MOST = 150;
    private static final int ITEMS_MOST = 400;
    private static final int ARMS_MOST = 400;
    private static final int VALUES_MOST = 500;
    private static final int INS_MOST = 1000;
    private static final int POINTS_MOST = INS_MOST + BLOCKS_MOST;
    // 1,000 INS, 30 ENDS, at most 400 MOVES (one an ARM) and 60 EDGES' go.
    private static final int ROWS_MOST = 1500;
    // Far above 5,000 STEPS with all the ROWS between two of them.
    private static final int PACES_MOST = 20_000_000;

    private static final int SYNTAX = 1;
    private static final int ROOM = 2;
    private static final int TWICE = 3;
    private static final int UNNAMED = 4;
    private static final int FORM = 5;
    private static final int STRICT = 6;

    // A word's place in this list is its kind as a token, and of an INS or END its OP.
    private static final String WORDS =
        "copy neg not add sub mul div rem and or xor shl shr lt eq in get out put go if ret fun phi ";
    private static final int WORDS_COUNT = 24;
    private static final int COPY = 0;
    private static final int NEG = 1;
    private static final int NOT = 2;
    private static final int ADD = 3;
    private static final int SUB = 4;
    private static final int MUL = 5;
    private static final int DIV = 6;
    private static final int REM = 7;
    private static final int AND = 8;
    private static final int OR = 9;
    private static final int XOR = 10;
    private static final int SHL = 11;
    private static final int SHR = 12;
    private static final int LT = 13;
    private static final int EQ = 14;
    private static final int IN = 15;
    private static final int GET = 16;
    private static final int OUT = 17;
    private static final int PUT = 18;
    private static final int GO = 19;
    private static final int IF = 20;
    private static final int RET = 21;
    // The OPS behind ret are no words; fun and phi have two of their numbers, but only as tokens.
    private static final int MOVE = 22;
    private static final int SWAP = 23;
    private static final int SET = 24;
    private static final int SAVE = 25;
    private static final int LOAD = 26;

    private static final int FUN = 22;
    private static final int PHI = 23;
    private static final int NAME = 30;
    private static final int NUMBER = 31;
    private static final int OPEN = 32;
    private static final int CLOSE = 33;
    private static final int COMMA = 34;
    private static final int COLON = 35;
    private static final int EQUALS = 36;
    private static final int FINISH = 37;
    private static final int WRONG = 38;

    private static final int NAME_MOST = 8;
    private static final int DIGITS_MOST = 10;
    private static final int SYMBOLS = 37;

    // Columns of tokens.
    private static final int KIND = 0;
    private static final int PLACE = 1;
    private static final int AMOUNT = 2;
    private static final int ROLE = 3;
    private static final int MEANING = 4;
    private static final int TOKEN_WIDTH = 5;

    private static final int USES_VALUE = 1;
    private static final int USES_BLOCK = 2;

    // Columns of INS, and of ROWS; the first six are numbered as ins() and code() ask for them.
    private static final int OP = 0;
    private static final int RESULT = 1;
    private static final int VALUE_1 = 2;
    private static final int NUMBER_1 = 3;
    private static final int VALUE_2 = 4;
    private static final int NUMBER_2 = 5;
    private static final int INS_WIDTH = 6;
    private static final int ROW_1 = 6;
    private static final int ROW_2 = 7;
    private static final int ROW_WIDTH = 8;

    // Columns of BLOCKS.
    private static final int FIRST_INS = 0;
    private static final int INS_COUNT = 1;
    private static final int FIRST_PHI = 2;
    private static final int PHI_COUNT = 3;
    private static final int END_OP = 4;
    private static final int END_VALUE = 5;
    private static final int END_NUMBER = 6;
    private static final int TO_1 = 7;
    private static final int TO_2 = 8;
    private static final int BLOCK_TOKEN = 9;
    private static final int TO_TOKEN_1 = 10;
    private static final int TO_TOKEN_2 = 11;
    private static final int BLOCK_WIDTH = 12;

    // Columns of PHIS.
    private static final int PHI_RESULT = 0;
    private static final int FIRST_ARM = 1;
    private static final int ARM_COUNT = 2;
    private static final int PHI_TOKEN = 3;
    private static final int PHI_WIDTH = 4;

    // Columns of ARMS.
    private static final int ARM_BLOCK = 0;
    private static final int ARM_VALUE = 1;
    private static final int ARM_NUMBER = 2;
    private static final int ARM_TOKEN = 3;
    private static final int ARM_WIDTH = 4;

    // Columns of VALUES; the first five are numbered as value() asks for them.
    private static final int HOME = 0;
    private static final int POINT = 1;
    private static final int USES = 2;
    private static final int COLOUR = 3;
    private static final int SLOT = 4;
    private static final int VALUE_TOKEN = 5;
    private static final int VALUE_WIDTH = 6;

    private static final int OUT_OF_FUEL = 0;
    private static final int RETURNED = 1;
    private static final int TRAPPED = 2;

    private static final int NOT_FITTED = -2;

    private final byte[] tape = new byte[TAPE_MOST];
    private int length;
    private final int[] fed = new int[INPUT_MOST];
    private int fedCount;
    private int faultPlace = NONE;
    // What follows is made when it is first needed, and then used again.
    private Text text;
    private Parser parser;
    private Judge judge;
    private Program now;
    private Program spare;
    private Painter painter;
    private Spiller spiller;
    private Code rows;
    private Machine plain;
    private Machine coded;

    public PaletteHouse() {
    }

    public int feed(int a, int b, int c, int d, int e) {
        if (length + FEED_BYTES > TAPE_MOST) {
            return NONE;
        }
        append(a);
        append(b);
        append(c);
        append(d);
        append(e);
        return length;
    }

    private void append(int four) {
        for (int shift = 24; shift >= 0; shift -= 8) {
            if (length < tape.length) {
                tape[length] = (byte) (four >> shift);
                length++;
            }
        }
    }

    public int back(int n) {
        if (n < 0 || n > length) {
            return NONE;
        }
        length -= n;
        return length;
    }

    public int read() {
        if (text == null) {
            text = new Text();
        }
        if (parser == null) {
            parser = new Parser(text);
        }
        if (judge == null) {
            judge = new Judge(text);
        }
        if (spare == null) {
            spare = new Program();
        }
        text.scan(tape, length);
        length = 0;
        if (parser.accepts(spare)) {
            judge.weigh(spare);
        }
        faultPlace = text.worstPlace();
        if (text.worst() == 0) {
            spare.life.measure(spare);
            adoptSpare();
            forgetRuns();
        }
        return text.worst();
    }

    /** The program in hand is not overwritten, so that a refused read or fit leaves it as it was. */
    private void adoptSpare() {
        Program old = now;
        now = spare;
        spare = old;
        dropCode();
    }

    private void dropCode() {
        if (rows != null) {
            rows.drop();
        }
    }

    private void forgetRuns() {
        if (plain != null) {
            plain.forget();
        }
        if (coded != null) {
            coded.forget();
        }
    }

    public int place() {
        return faultPlace;
    }

    public int block(int b, int what) {
        if (now == null || !now.blocks.has(b)) {
            return NONE;
        }
        switch (what) {
            case 0:
                return now.graph.idom(b);
            case 1:
                return now.graph.rank(b);
            case 2:
                return now.blocks.at(b, INS_COUNT);
            case 3:
                return now.blocks.at(b, PHI_COUNT);
            case 4:
                return Integer.bitCount(now.graph.preds(b));
            case 5:
                return now.blocks.at(b, END_OP) - GO;
            default:
                return NONE;
        }
    }

    public int value(int v, int what) {
        if (now == null || !now.values.has(v) || what < 0 || what > 5) {
            return NONE;
        }
        return what == 5 ? now.life.span(v) : now.values.at(v, what);
    }

    public int ins(int b, int i, int what) {
        if (now == null || i < 1 || i > now.blocks.at(b, INS_COUNT)) {
            return NONE;
        }
        return now.ins.at(now.blocks.at(b, FIRST_INS) + i - 1, what);
    }

    public boolean live(int b, int i, int v) {
        return now != null && now.life.holds(now.pointIndex(b, i), v);
    }

    public int pressure(int b, int i) {
        return now == null ? NONE : now.life.pressureAt(now.pointIndex(b, i));
    }

    public int clique(int i) {
        return now == null ? NONE : now.life.member(i);
    }

    public boolean meet(int u, int v) {
        return now != null && u != v && now.life.together(u, v);
    }

    public int fit(int k) {
        if (now == null || k < 1 || k > FIT_MOST) {
            return NONE;
        }
        if (spare == null) {
            spare = new Program();
        }
        if (spiller == null) {
            spiller = new Spiller();
        }
        spare.copyFrom(now);
        int given = spiller.squeeze(spare, k);
        if (given >= 0) {
            adoptSpare();
        }
        return given;
    }

    public int colour(int how) {
        if (now == null || how < 0 || how > 1) {
            return NONE;
        }
        if (painter == null) {
            painter = new Painter();
        }
        dropCode();
        return painter.paint(now, how == 1);
    }

    public int lower() {
        if (now == null || !now.coloured) {
            return NONE;
        }
        if (rows == null) {
            rows = new Code();
        }
        return rows.assemble(now);
    }

    public int code(int r, int what) {
        return rows == null ? NONE : rows.cell(r, what);
    }

    public int input(int v) {
        if (fedCount < 0 || fedCount >= fed.length) {
            return NONE;
        }
        fed[fedCount] = v;
        fedCount++;
        return fedCount;
    }

    public int clear() {
        int had = fedCount;
        fedCount = 0;
        return had;
    }

    public int run(boolean code, int fuel) {
        if (now == null || fuel < 1 || fuel > FUEL_MOST) {
            return NONE;
        }
        return code ? runCode(fuel) : runFunction(fuel);
    }

    private int runFunction(int fuel) {
        if (plain == null) {
            plain = new Machine(fed);
        }
        plain.begin(fedCount, fuel);
        return plain.follow(now);
    }

    private int runCode(int fuel) {
        if (rows == null || rows.size() == 0) {
            return NONE;
        }
        if (coded == null) {
            coded = new Machine(fed);
        }
        coded.begin(fedCount, fuel);
        return coded.obey(rows, now);
    }

    public int told(boolean code, int what) {
        Machine machine = code ? coded : plain;
        return machine == null ? NONE : machine.tell(what);
    }

    public int output(boolean code, int i) {
        Machine machine = code ? coded : plain;
        return machine == null ? 0 : machine.shownAt(i);
    }

    public int memory(boolean code, int a) {
        Machine machine = code ? coded : plain;
        return machine == null ? 0 : machine.storeAt(a);
    }

    public int count(int what) {
        if (what < 0 || what > 12) {
            return NONE;
        }
        if (what == 12) {
            return length;
        }
        if (what >= 7 && what <= 10) {
            return countRows(what);
        }
        return now == null ? 0 : countParts(now, what);
    }

    private int countRows(int what) {
        if (rows == null) {
            return 0;
        }
        return what == 7 ? rows.size() : rows.howMany(MOVE + what - 8);
    }

    private static int countParts(Program program, int what) {
        switch (what) {
            case 0:
                return program.blocks.size();
            case 1:
                return program.values.size();
            case 2:
                return program.ins.size();
            case 3:
                return program.phis.size();
            case 4:
                return program.life.maxLive();
            case 5:
                return program.life.points();
            case 6:
                return program.slots;
            default:
                return program.life.pairs();
        }
    }

    /** Rows of ints, each cell looked at before it is used: outside of them there is NONE. */
    private static final class Table {
        private final int width;
        private final int most;
        private final int[] cells;
        private int size;

        Table(int width, int most) {
            this.width = Math.max(1, width);
            this.most = Math.max(0, most);
            this.cells = new int[this.width * this.most];
        }

        int size() {
            return size;
        }

        boolean has(int row) {
            return row >= 0 && row < size;
        }

        int at(int row, int column) {
            if (row < 0 || row >= size || column < 0 || column >= width) {
                return NONE;
            }
            return cells[row * width + column];
        }

        void set(int row, int column, int what) {
            if (row >= 0 && row < size && column >= 0 && column < width) {
                cells[row * width + column] = what;
            }
        }

        void raise(int row, int column) {
            if (row >= 0 && row < size && column >= 0 && column < width) {
                cells[row * width + column]++;
            }
        }

        void cut() {
            size = 0;
        }

        /** A new row of NONE behind the others; NONE if there is no room. */
        int add() {
            if (size >= most) {
                return NONE;
            }
            Arrays.fill(cells, size * width, (size + 1) * width, NONE);
            size++;
            return size - 1;
        }

        /** A new row with the cells of another table's row; NONE if there is no room. */
        int addFrom(Table other, int row) {
            int made = add();
            if (made != NONE) {
                for (int column = 0; column < width; column++) {
                    cells[made * width + column] = other.at(row, column);
                }
            }
            return made;
        }

        void copyFrom(Table other) {
            size = Math.min(most, other.size);
            int n = Math.min(size * width, other.cells.length);
            System.arraycopy(other.cells, 0, cells, 0, n);
        }
    }

    /** The text's tokens, what its names mean, and the worst fault that was told of it. */
    private static final class Text {
        private final Table tokens = new Table(TOKEN_WIDTH, TOKENS_MOST + 1);
        private final long[] names = new long[TOKENS_MOST + 1];
        private final long[] words = new long[WORDS_COUNT];
        private byte[] bytes;
        private int length;
        private int worst;
        private int worstPlace = NONE;

        Text() {
            int word = 0;
            long packed = 0;
            for (int i = 0; i < WORDS.length(); i++) {
                char c = WORDS.charAt(i);
                if (c != ' ') {
                    packed = packed * SYMBOLS + (c - 'a' + 1);
                } else if (word < words.length) {
                    words[word] = packed;
                    word++;
                    packed = 0;
                }
            }
        }

        int worst() {
            return worst;
        }

        int worstPlace() {
            return worst == 0 ? NONE : worstPlace;
        }

        /** Keeps the fault with the least place, and of one place the least number. */
        void blame(int fault, int token) {
            int place = tokens.at(token, PLACE);
            if (worst == 0 || place < worstPlace || place == worstPlace && fault < worst) {
                worst = fault;
                worstPlace = place;
            }
        }

        long nameOf(int token) {
            return token >= 0 && token < names.length ? names[token] : 0;
        }

        /** One token more than there may be is taken up, since it may be the fault. */
        void scan(byte[] tape, int tapeLength) {
            bytes = tape;
            length = tapeLength;
            worst = 0;
            tokens.cut();
            int at = 0;
            boolean more = true;
            for (int n = 0; n <= TOKENS_MOST && more; n++) {
                at = skipBlanks(at);
                at = scanToken(at);
                int kind = tokens.at(n, KIND);
                more = kind != FINISH && kind != WRONG;
            }
        }

        private int byteAt(int i) {
            if (bytes == null || i < 0 || i >= length || i >= bytes.length) {
                return NONE;
            }
            return bytes[i] & 255;
        }

        private int skipBlanks(int from) {
            int at = from;
            while (at < length && isBlank(byteAt(at))) {
                at++;
            }
            return at;
        }

        private int scanToken(int from) {
            int c = byteAt(from);
            if (isLetter(c)) {
                return scanWord(from);
            }
            if (isDigit(c) || c == '-') {
                return scanNumber(from);
            }
            keep(c == NONE ? FINISH : signKind(c), from, 0, 0);
            return from + 1;
        }

        private void keep(int kind, int from, int amount, long name) {
            int token = tokens.add();
            if (token >= 0 && token < names.length) {
                tokens.set(token, KIND, kind);
                tokens.set(token, PLACE, from);
                tokens.set(token, AMOUNT, amount);
                names[token] = name;
            }
        }

        private int scanWord(int from) {
            long packed = 0;
            int end = from;
            while (end < length && isWordByte(byteAt(end))) {
                if (end - from < NAME_MOST) {
                    packed = packed * SYMBOLS + symbol(byteAt(end));
                }
                end++;
            }
            keep(end - from > NAME_MOST ? WRONG : wordKind(packed), from, 0, packed);
            return end;
        }

        private int wordKind(long packed) {
            for (int word = 0; word < words.length; word++) {
                if (words[word] == packed) {
                    return word;
                }
            }
            return NAME;
        }

        private int scanNumber(int from) {
            boolean minus = byteAt(from) == '-';
            int first = minus ? from + 1 : from;
            int end = first;
            long number = 0;
            while (end < length && isDigit(byteAt(end))) {
                if (end - first < DIGITS_MOST) {
                    number = number * 10 + (byteAt(end) - '0');
                }
                end++;
            }
            if (minus) {
                number = -number;
            }
            boolean good = end > first && end - first <= DIGITS_MOST
                && number == (int) number;
            keep(good ? NUMBER : WRONG, from, (int) number, 0);
            return end;
        }

        private static boolean isBlank(int c) {
            return c == 9 || c == 10 || c == 13 || c == 32;
        }

        private static boolean isLetter(int c) {
            return c >= 'a' && c <= 'z';
        }

        private static boolean isDigit(int c) {
            return c >= '0' && c <= '9';
        }

        private static boolean isWordByte(int c) {
            return c >= 'a' && c <= 'z' || c >= '0' && c <= '9';
        }

        /** Never 0, so that no two names have the same packed form. */
        private static int symbol(int c) {
            return c >= 'a' ? c - 'a' + 1 : c - '0' + 27;
        }

        private static int signKind(int c) {
            switch (c) {
                case '(':
                    return OPEN;
                case ')':
                    return CLOSE;
                case ',':
                    return COMMA;
                case ':':
                    return COLON;
                case '=':
                    return EQUALS;
                default:
                    return WRONG;
            }
        }
    }

    /** Takes the tokens by the grammar; a program's VALUE columns hold tokens until the judge links them. */
    private static final class Parser {
        private final Text text;
        private final Table tokens;
        private Program program;
        private int at;
        private int items;
        private int fault;

        Parser(Text text) {
            this.text = text;
            this.tokens = text.tokens;
        }

        boolean accepts(Program empty) {
            program = empty;
            program.reset();
            at = 0;
            items = 0;
            fault = 0;
            boolean good = takeHead();
            boolean more = good;
            for (int n = 0; n <= BLOCKS_MOST && more; n++) {
                good = takeBlock();
                more = good && tokens.at(at, KIND) != FINISH;
            }
            if (!good) {
                text.blame(fault, at);
            }
            program.texted = program.values.size();
            return good;
        }

        private boolean refuse(int number) {
            fault = number;
            return false;
        }

        /** Whether the token at hand is of this kind, and is not one too many. */
        private boolean wants(int kind) {
            if (tokens.at(at, KIND) != kind) {
                return refuse(SYNTAX);
            }
            return at < TOKENS_MOST || refuse(ROOM);
        }

        private boolean take(int kind) {
            boolean good = wants(kind);
            if (good) {
                at++;
            }
            return good;
        }

        private boolean takeHead() {
            if (!take(FUN) || !take(OPEN)) {
                return false;
            }
            boolean more = tokens.at(at, KIND) != CLOSE;
            for (int n = 0; n <= PARAMETERS_MOST && more; n++) {
                if (!takeParameter()) {
                    return false;
                }
                more = tokens.at(at, KIND) == COMMA;
                if (more && !take(COMMA)) {
                    return false;
                }
            }
            return take(CLOSE);
        }

        private boolean takeParameter() {
            if (!wants(NAME)) {
                return false;
            }
            if (program.parameters >= PARAMETERS_MOST) {
                return refuse(ROOM);
            }
            program.addValue(0, 0, at);
            program.parameters++;
            at++;
            return true;
        }

        private boolean takeBlock() {
            if (!wants(NAME)) {
                return false;
            }
            int b = program.addBlock(at);
            if (b == NONE) {
                return refuse(ROOM);
            }
            at++;
            if (!take(COLON)) {
                return false;
            }
            boolean more = true;
            for (int n = 0; n <= ITEMS_MOST && more; n++) {
                int kind = tokens.at(at, KIND);
                more = kind < GO || kind > RET;
                boolean good = more ? takeItem(b, kind) : takeEnd(b, kind);
                if (!good) {
                    return false;
                }
            }
            return true;
        }

        private boolean takeItem(int b, int first) {
            if (first != NAME && first != OUT && first != PUT) {
                return refuse(SYNTAX);
            }
            if (!countItem()) {
                return false;
            }
            if (first != NAME) {
                return takeIns(b, first, NONE);
            }
            if (program.values.size() >= TEXT_VALUES_MOST) {
                return refuse(ROOM);
            }
            int v = program.addValue(b, 0, at);
            at++;
            if (!take(EQUALS)) {
                return false;
            }
            int op = tokens.at(at, KIND);
            if (op == PHI && program.blocks.at(b, INS_COUNT) == 0) {
                return takePhi(b, v);
            }
            return op >= COPY && op <= GET ? takeIns(b, op, v) : refuse(SYNTAX);
        }

        private boolean countItem() {
            if (at >= TOKENS_MOST || items >= ITEMS_MOST) {
                return refuse(ROOM);
            }
            items++;
            return true;
        }

        private boolean takePhi(int b, int v) {
            int phi = program.addPhi(b, v, at);
            if (!take(PHI)) {
                return false;
            }
            boolean more = true;
            for (int n = 0; n <= ARMS_MOST && more; n++) {
                if (!wants(NAME)) {
                    return false;
                }
                int arm = program.addArm(phi, at);
                if (arm == NONE) {
                    return refuse(ROOM);
                }
                tokens.set(at, ROLE, USES_BLOCK);
                at++;
                if (!takeVal(program.arms, arm, ARM_VALUE)) {
                    return false;
                }
                more = tokens.at(at, KIND) == COMMA;
                if (more && !take(COMMA)) {
                    return false;
                }
            }
            return true;
        }

        private boolean takeIns(int b, int op, int v) {
            if (!take(op)) {
                return false;
            }
            int row = program.addIns(b, op, v);
            int vals = vals(op);
            if (vals >= 1 && !takeVal(program.ins, row, VALUE_1)) {
                return false;
            }
            return vals < 2 || takeVal(program.ins, row, VALUE_2);
        }

        private static int vals(int op) {
            if (op == IN) {
                return 0;
            }
            return op <= NOT || op == GET || op == OUT ? 1 : 2;
        }

        /** The number's column is the one behind the value's. */
        private boolean takeVal(Table table, int row, int column) {
            if (tokens.at(at, KIND) == NUMBER) {
                if (!wants(NUMBER)) {
                    return false;
                }
                table.set(row, column + 1, tokens.at(at, AMOUNT));
            } else {
                if (!wants(NAME)) {
                    return false;
                }
                table.set(row, column, at);
                tokens.set(at, ROLE, USES_VALUE);
            }
            at++;
            return true;
        }

        private boolean takeEnd(int b, int op) {
            if (!countItem() || !take(op)) {
                return false;
            }
            program.blocks.set(b, END_OP, op);
            if (op != GO && !takeVal(program.blocks, b, END_VALUE)) {
                return false;
            }
            if (op != RET && !takeTarget(b, TO_TOKEN_1)) {
                return false;
            }
            return op != IF || takeTarget(b, TO_TOKEN_2);
        }

        private boolean takeTarget(int b, int column) {
            if (!wants(NAME)) {
                return false;
            }
            program.blocks.set(b, column, at);
            tokens.set(at, ROLE, USES_BLOCK);
            at++;
            return true;
        }
    }

    /** Tells the faults of a program that the grammar accepts, and links it if there is none. */
    private static final class Judge {
        private final Text text;
        private final Table tokens;
        private Program program;

        Judge(Text text) {
            this.text = text;
            this.tokens = text.tokens;
        }

        void weigh(Program parsed) {
            program = parsed;
            blameTwice(program.values, VALUE_TOKEN);
            blameTwice(program.blocks, BLOCK_TOKEN);
            resolveNames();
            setTargets();
            program.graph.trace(program.blocks);
            judgeBlocks();
            if (text.worst() == 0) {
                program.graph.dominate();
                judgeUses();
            }
            if (text.worst() == 0) {
                link();
            }
        }

        private int firstNamed(Table table, int column, long name) {
            for (int row = 0; row < table.size(); row++) {
                if (text.nameOf(table.at(row, column)) == name) {
                    return row;
                }
            }
            return NONE;
        }

        private void blameTwice(Table table, int column) {
            for (int row = 0; row < table.size(); row++) {
                int token = table.at(row, column);
                if (firstNamed(table, column, text.nameOf(token)) < row) {
                    text.blame(TWICE, token);
                }
            }
        }

        private void resolveNames() {
            for (int token = 0; token < tokens.size(); token++) {
                int role = tokens.at(token, ROLE);
                if (role != NONE) {
                    int meaning = role == USES_VALUE
                        ? firstNamed(program.values, VALUE_TOKEN, text.nameOf(token))
                        : firstNamed(program.blocks, BLOCK_TOKEN, text.nameOf(token));
                    tokens.set(token, MEANING, meaning);
                    if (meaning == NONE) {
                        text.blame(UNNAMED, token);
                    }
                }
            }
        }

        private void setTargets() {
            Table blocks = program.blocks;
            for (int b = 0; b < blocks.size(); b++) {
                blocks.set(b, TO_1, tokens.at(blocks.at(b, TO_TOKEN_1), MEANING));
                blocks.set(b, TO_2, tokens.at(blocks.at(b, TO_TOKEN_2), MEANING));
            }
            for (int arm = 0; arm < program.arms.size(); arm++) {
                program.arms.set(arm, ARM_BLOCK, tokens.at(program.arms.at(arm, ARM_TOKEN), MEANING));
            }
        }

        private void judgeBlocks() {
            Table blocks = program.blocks;
            for (int b = 0; b < blocks.size(); b++) {
                int first = blocks.at(b, TO_1);
                int second = blocks.at(b, TO_2);
                if (first == 0) {
                    text.blame(FORM, blocks.at(b, TO_TOKEN_1));
                }
                if (second == 0 || second != NONE && second == first) {
                    text.blame(FORM, blocks.at(b, TO_TOKEN_2));
                }
                if (!program.graph.reaches(b)) {
                    text.blame(FORM, blocks.at(b, BLOCK_TOKEN));
                }
                for (int n = 0; n < blocks.at(b, PHI_COUNT); n++) {
                    judgePhi(b, blocks.at(b, FIRST_PHI) + n);
                }
            }
        }

        private void judgePhi(int b, int phi) {
            int preds = program.graph.preds(b);
            int seen = 0;
            boolean sound = true;
            for (int n = 0; n < program.phis.at(phi, ARM_COUNT); n++) {
                int arm = program.phis.at(phi, FIRST_ARM) + n;
                int from = program.arms.at(arm, ARM_BLOCK);
                int bit = from == NONE ? 0 : 1 << from;
                if ((bit & preds & ~seen) == 0) {
                    sound = false;
                    if (from != NONE) {
                        text.blame(FORM, program.arms.at(arm, ARM_TOKEN));
                    }
                }
                seen |= bit;
            }
            if (sound && seen != preds) {
                text.blame(FORM, program.phis.at(phi, PHI_TOKEN));
            }
        }

        private void judgeUses() {
            Table blocks = program.blocks;
            for (int b = 0; b < blocks.size(); b++) {
                int end = blocks.at(b, INS_COUNT) + 1;
                for (int i = 1; i < end; i++) {
                    int row = blocks.at(b, FIRST_INS) + i - 1;
                    judgeUse(program.ins.at(row, VALUE_1), b, i);
                    judgeUse(program.ins.at(row, VALUE_2), b, i);
                }
                judgeUse(blocks.at(b, END_VALUE), b, end);
            }
            for (int arm = 0; arm < program.arms.size(); arm++) {
                int from = program.arms.at(arm, ARM_BLOCK);
                judgeUse(program.arms.at(arm, ARM_VALUE), from, blocks.at(from, INS_COUNT) + 1);
            }
        }

        private void judgeUse(int token, int b, int i) {
            if (token == NONE) {
                return;
            }
            int v = tokens.at(token, MEANING);
            int home = program.values.at(v, HOME);
            boolean good = home == b
                ? program.values.at(v, POINT) < i
                : program.graph.dominates(home, b);
            if (!good) {
                text.blame(STRICT, token);
            }
        }

        private void link() {
            linkColumn(program.ins, VALUE_1);
            linkColumn(program.ins, VALUE_2);
            linkColumn(program.blocks, END_VALUE);
            linkColumn(program.arms, ARM_VALUE);
        }

        private void linkColumn(Table table, int column) {
            for (int row = 0; row < table.size(); row++) {
                int token = table.at(row, column);
                if (token != NONE) {
                    int v = tokens.at(token, MEANING);
                    table.set(row, column, v);
                    program.values.raise(v, USES);
                }
            }
        }
    }

    /** One function: its tables, its graph, and where its values live. */
    private static final class Program {
        final Table blocks = new Table(BLOCK_WIDTH, BLOCKS_MOST);
        final Table ins = new Table(INS_WIDTH, INS_MOST);
        final Table phis = new Table(PHI_WIDTH, TEXT_VALUES_MOST);
        final Table arms = new Table(ARM_WIDTH, ARMS_MOST);
        final Table values = new Table(VALUE_WIDTH, VALUES_MOST);
        final Graph graph = new Graph();
        final Life life = new Life();
        int parameters;
        // From this number on, values are results of LOAD.
        int texted;
        int slots;
        boolean coloured;

        void reset() {
            blocks.cut();
            ins.cut();
            phis.cut();
            arms.cut();
            values.cut();
            parameters = 0;
            texted = 0;
            slots = 0;
            coloured = false;
        }

        void copyFrom(Program other) {
            blocks.copyFrom(other.blocks);
            ins.copyFrom(other.ins);
            phis.copyFrom(other.phis);
            arms.copyFrom(other.arms);
            values.copyFrom(other.values);
            graph.trace(blocks);
            graph.dominate();
            parameters = other.parameters;
            texted = other.texted;
            slots = other.slots;
            dropColours();
        }

        void dropColours() {
            for (int v = 0; v < values.size(); v++) {
                values.set(v, COLOUR, NONE);
            }
            coloured = false;
        }

        int addBlock(int token) {
            int b = blocks.add();
            blocks.set(b, FIRST_INS, ins.size());
            blocks.set(b, INS_COUNT, 0);
            blocks.set(b, FIRST_PHI, phis.size());
            blocks.set(b, PHI_COUNT, 0);
            blocks.set(b, END_NUMBER, 0);
            blocks.set(b, BLOCK_TOKEN, token);
            return b;
        }

        int addValue(int b, int point, int token) {
            int v = values.add();
            values.set(v, HOME, b);
            values.set(v, POINT, point);
            values.set(v, USES, 0);
            values.set(v, VALUE_TOKEN, token);
            return v;
        }

        int addPhi(int b, int v, int token) {
            int phi = phis.add();
            phis.set(phi, PHI_RESULT, v);
            phis.set(phi, FIRST_ARM, arms.size());
            phis.set(phi, ARM_COUNT, 0);
            phis.set(phi, PHI_TOKEN, token);
            blocks.raise(b, PHI_COUNT);
            return phi;
        }

        int addArm(int phi, int token) {
            int arm = arms.add();
            if (arm != NONE) {
                arms.set(arm, ARM_NUMBER, 0);
                arms.set(arm, ARM_TOKEN, token);
                phis.raise(phi, ARM_COUNT);
            }
            return arm;
        }

        /** Always an INS of the block that is the last one so far. */
        int addIns(int b, int op, int result) {
            int row = ins.add();
            if (row != NONE) {
                ins.set(row, OP, op);
                ins.set(row, RESULT, result);
                ins.set(row, NUMBER_1, 0);
                ins.set(row, NUMBER_2, 0);
                settle(b, result);
            }
            return row;
        }

        /** The block's last INS has just been added, and this is its result. */
        void settle(int b, int result) {
            blocks.raise(b, INS_COUNT);
            values.set(result, POINT, blocks.at(b, INS_COUNT));
        }

        int pointIndex(int b, int i) {
            if (!blocks.has(b) || i < 0 || i > blocks.at(b, INS_COUNT)) {
                return NONE;
            }
            return blocks.at(b, FIRST_INS) + b + i;
        }

        /** The row of the ARM that a PHI has for a block from which one comes. */
        int armFrom(int phi, int from) {
            int first = phis.at(phi, FIRST_ARM);
            for (int n = 0; n < phis.at(phi, ARM_COUNT); n++) {
                if (arms.at(first + n, ARM_BLOCK) == from) {
                    return first + n;
                }
            }
            return NONE;
        }
    }

    /** Ways between blocks; a set of blocks is an int, since there are at most 30. */
    private static final class Graph {
        private final int[] preds = new int[BLOCKS_MOST];
        private final int[] doms = new int[BLOCKS_MOST];
        private final int[] idoms = new int[BLOCKS_MOST];
        private final int[] order = new int[BLOCKS_MOST];
        private final int[] ranks = new int[BLOCKS_MOST];
        private final int[] stack = new int[BLOCKS_MOST];
        private int size;
        private int reached;

        void trace(Table blocks) {
            size = Math.min(BLOCKS_MOST, blocks.size());
            Arrays.fill(preds, 0);
            for (int b = 0; b < size; b++) {
                addPred(blocks.at(b, TO_1), b);
                addPred(blocks.at(b, TO_2), b);
            }
            reached = reachWithout(0);
        }

        private void addPred(int to, int from) {
            if (to >= 0 && to < size) {
                preds[to] |= 1 << from;
            }
        }

        private int reachWithout(int barred) {
            int seen = 1 & ~barred;
            int before = 0;
            for (int round = 0; round <= size && seen != before; round++) {
                before = seen;
                for (int b = 0; b < size; b++) {
                    if ((preds[b] & seen) != 0) {
                        seen |= 1 << b & ~barred;
                    }
                }
            }
            return seen;
        }

        /** For a graph whose blocks are all reached. */
        void dominate() {
            Arrays.fill(doms, 0);
            for (int d = 0; d < size; d++) {
                int free = reachWithout(1 << d);
                for (int b = 0; b < size; b++) {
                    if ((free >> b & 1) == 0) {
                        doms[b] |= 1 << d;
                    }
                }
            }
            for (int b = 0; b < size; b++) {
                idoms[b] = nearest(b);
            }
            arrange();
        }

        /** Of the others that dominate b, the nearest is the one with the most of them above it. */
        private int nearest(int b) {
            int best = NONE;
            int most = 0;
            for (int d = 0; d < size; d++) {
                int above = Integer.bitCount(doms[d]);
                if (d != b && (doms[b] >> d & 1) != 0 && above > most) {
                    best = d;
                    most = above;
                }
            }
            return best;
        }

        private void arrange() {
            int waiting = 0;
            if (size > 0) {
                stack[0] = 0;
                waiting = 1;
            }
            for (int n = 0; n < size && waiting > 0; n++) {
                waiting--;
                int b = stack[waiting];
                order[n] = b;
                ranks[b] = n;
                waiting = stackChildren(b, waiting);
            }
        }

        /** From the greatest number down, so that the least one is taken first. */
        private int stackChildren(int parent, int from) {
            int waiting = from;
            for (int b = size - 1; b > 0; b--) {
                if (idoms[b] == parent && waiting < stack.length) {
                    stack[waiting] = b;
                    waiting++;
                }
            }
            return waiting;
        }

        private boolean has(int b) {
            return b >= 0 && b < size;
        }

        int preds(int b) {
            return has(b) ? preds[b] : 0;
        }

        boolean reaches(int b) {
            return has(b) && (reached >> b & 1) != 0;
        }

        boolean dominates(int d, int b) {
            return has(b) && has(d) && (doms[b] >> d & 1) != 0;
        }

        int idom(int b) {
            return has(b) ? idoms[b] : NONE;
        }

        int rank(int b) {
            return has(b) ? ranks[b] : NONE;
        }

        int ordered(int n) {
            return has(n) ? order[n] : NONE;
        }
    }

    /** Which values live at which points; a point's set is a few longs. */
    private static final class Life {
        private static final int WORDS_A_SET = 8;

        private final int[] begins = new int[VALUES_MOST];
        private final int[] ends = new int[VALUES_MOST];
        private final long[] sets = new long[POINTS_MOST * WORDS_A_SET];
        private final int[] pressures = new int[POINTS_MOST];
        private final long[] current = new long[WORDS_A_SET];
        private final long[] met = new long[WORDS_A_SET];
        private Program program;
        private int points;
        private int values;
        private int maxLive;
        private int top;
        private int pairs;

        void measure(Program measured) {
            program = measured;
            values = Math.min(VALUES_MOST, program.values.size());
            points = Math.min(POINTS_MOST, program.ins.size() + program.blocks.size());
            pairs = NONE;
            Arrays.fill(begins, 0);
            Arrays.fill(ends, 0);
            gatherUses();
            for (int v = 0; v < values; v++) {
                spread(v);
            }
            for (int b = 0; b < program.blocks.size(); b++) {
                walk(b);
            }
            weighPoints();
        }

        private void gatherUses() {
            Table blocks = program.blocks;
            for (int b = 0; b < blocks.size(); b++) {
                int first = blocks.at(b, FIRST_INS);
                for (int n = 0; n < blocks.at(b, INS_COUNT); n++) {
                    useWithin(program.ins.at(first + n, VALUE_1), b);
                    useWithin(program.ins.at(first + n, VALUE_2), b);
                }
                useAtEnd(blocks.at(b, END_VALUE), b);
            }
            for (int arm = 0; arm < program.arms.size(); arm++) {
                useAtEnd(program.arms.at(arm, ARM_VALUE), program.arms.at(arm, ARM_BLOCK));
            }
        }

        /** Strictness puts the definition ahead of a use in its own block. */
        private void useWithin(int v, int b) {
            if (v >= 0 && v < values && program.values.at(v, HOME) != b) {
                begins[v] |= 1 << b;
            }
        }

        private void useAtEnd(int v, int b) {
            useWithin(v, b);
            if (v >= 0 && v < values) {
                ends[v] |= 1 << b;
            }
        }

        /** A value that lives at a block's begin lives at the end of all its predecessors. */
        private void spread(int v) {
            int home = 1 << program.values.at(v, HOME);
            int done = 0;
            for (int round = 0; round <= BLOCKS_MOST && begins[v] != done; round++) {
                int fresh = begins[v] & ~done;
                done = begins[v];
                for (int b = 0; b < BLOCKS_MOST; b++) {
                    if ((fresh >> b & 1) != 0) {
                        ends[v] |= program.graph.preds(b);
                    }
                }
                begins[v] |= ends[v] & ~home;
            }
        }

        /** Backwards from the block's end; a definition lives at its own point, used or not. */
        private void walk(int b) {
            Arrays.fill(current, 0);
            for (int v = 0; v < values; v++) {
                if ((ends[v] >> b & 1) != 0) {
                    mark(v, true);
                }
            }
            int first = program.blocks.at(b, FIRST_INS);
            for (int i = program.blocks.at(b, INS_COUNT); i > 0; i--) {
                int row = first + i - 1;
                int result = program.ins.at(row, RESULT);
                mark(result, true);
                store(first + b + i);
                mark(result, false);
                mark(program.ins.at(row, VALUE_1), true);
                mark(program.ins.at(row, VALUE_2), true);
            }
            markBegin(b);
            store(first + b);
        }

        private void markBegin(int b) {
            int first = program.blocks.at(b, FIRST_PHI);
            for (int n = 0; n < program.blocks.at(b, PHI_COUNT); n++) {
                mark(program.phis.at(first + n, PHI_RESULT), true);
            }
            for (int v = 0; b == 0 && v < program.parameters; v++) {
                mark(v, true);
            }
        }

        private void mark(int v, boolean lives) {
            if (v < 0 || v >= values) {
                return;
            }
            long bit = 1L << (v & 63);
            if (lives) {
                current[v >> 6] |= bit;
            } else {
                current[v >> 6] &= ~bit;
            }
        }

        private void store(int point) {
            if (point < 0 || point >= points) {
                return;
            }
            int living = 0;
            for (int w = 0; w < WORDS_A_SET; w++) {
                sets[point * WORDS_A_SET + w] = current[w];
                living += Long.bitCount(current[w]);
            }
            pressures[point] = living;
        }

        private void weighPoints() {
            maxLive = 0;
            top = 0;
            for (int point = 0; point < points; point++) {
                if (pressures[point] > maxLive) {
                    maxLive = pressures[point];
                    top = point;
                }
            }
        }

        int points() {
            return points;
        }

        int maxLive() {
            return maxLive;
        }

        boolean holds(int point, int v) {
            if (point < 0 || point >= points || v < 0 || v >= values) {
                return false;
            }
            return (sets[point * WORDS_A_SET + (v >> 6)] >>> (v & 63) & 1) != 0;
        }

        int pressureAt(int point) {
            return point >= 0 && point < points ? pressures[point] : NONE;
        }

        int firstAbove(int k) {
            for (int point = 0; point < points; point++) {
                if (pressures[point] > k) {
                    return point;
                }
            }
            return NONE;
        }

        int member(int i) {
            int before = 0;
            for (int v = 0; v < values && i >= 0; v++) {
                if (holds(top, v)) {
                    if (before == i) {
                        return v;
                    }
                    before++;
                }
            }
            return NONE;
        }

        int span(int v) {
            int n = 0;
            for (int point = 0; point < points; point++) {
                if (holds(point, v)) {
                    n++;
                }
            }
            return n;
        }

        boolean together(int u, int v) {
            for (int point = 0; point < points; point++) {
                if (holds(point, u) && holds(point, v)) {
                    return true;
                }
            }
            return false;
        }

        /** Counted when first asked for, and kept. */
        int pairs() {
            if (pairs == NONE) {
                int both = 0;
                for (int v = 0; v < values; v++) {
                    both += meetings(v);
                }
                pairs = both / 2;
            }
            return pairs;
        }

        private int meetings(int v) {
            Arrays.fill(met, 0);
            for (int point = 0; point < points; point++) {
                if (holds(point, v)) {
                    for (int w = 0; w < WORDS_A_SET; w++) {
                        met[w] |= sets[point * WORDS_A_SET + w];
                    }
                }
            }
            int others = -1;
            for (int w = 0; w < WORDS_A_SET; w++) {
                others += Long.bitCount(met[w]);
            }
            return others;
        }
    }

    /** Gives the colours. */
    private static final class Painter {
        // By a colour: 1 if it is not free.
        private final int[] taken = new int[VALUES_MOST];
        private final int[] votes = new int[VALUES_MOST];
        private Program program;
        private boolean listening;

        int paint(Program painted, boolean byWish) {
            program = painted;
            listening = byWish;
            program.dropColours();
            for (int n = 0; n < program.blocks.size(); n++) {
                paintBlock(program.graph.ordered(n));
            }
            program.coloured = true;
            return different();
        }

        private void paintBlock(int b) {
            for (int v = 0; b == 0 && v < program.parameters; v++) {
                paintValue(v, b, 0);
            }
            int firstPhi = program.blocks.at(b, FIRST_PHI);
            for (int n = 0; n < program.blocks.at(b, PHI_COUNT); n++) {
                paintValue(program.phis.at(firstPhi + n, PHI_RESULT), b, 0);
            }
            int firstIns = program.blocks.at(b, FIRST_INS);
            for (int n = 0; n < program.blocks.at(b, INS_COUNT); n++) {
                paintValue(program.ins.at(firstIns + n, RESULT), b, n + 1);
            }
        }

        private void paintValue(int v, int b, int i) {
            if (v == NONE) {
                return;
            }
            Arrays.fill(taken, 0);
            Arrays.fill(votes, 0);
            int point = program.pointIndex(b, i);
            for (int u = 0; u < program.values.size(); u++) {
                if (program.life.holds(point, u)) {
                    take(program.values.at(u, COLOUR));
                }
            }
            if (listening) {
                hearPhis(v);
                hearCopies(v);
            }
            program.values.set(v, COLOUR, bestFree());
        }

        private void take(int c) {
            if (c >= 0 && c < taken.length) {
                taken[c] = 1;
            }
        }

        private void vote(int wisher) {
            int c = program.values.at(wisher, COLOUR);
            if (c >= 0 && c < votes.length) {
                votes[c]++;
            }
        }

        private void hearPhis(int v) {
            for (int phi = 0; phi < program.phis.size(); phi++) {
                int result = program.phis.at(phi, PHI_RESULT);
                int first = program.phis.at(phi, FIRST_ARM);
                for (int n = 0; n < program.phis.at(phi, ARM_COUNT); n++) {
                    int used = program.arms.at(first + n, ARM_VALUE);
                    if (result == v) {
                        vote(used);
                    }
                    if (used == v) {
                        vote(result);
                    }
                }
            }
        }

        private void hearCopies(int v) {
            for (int row = 0; row < program.ins.size(); row++) {
                if (program.ins.at(row, OP) == COPY) {
                    int result = program.ins.at(row, RESULT);
                    int used = program.ins.at(row, VALUE_1);
                    if (result == v) {
                        vote(used);
                    }
                    if (used == v) {
                        vote(result);
                    }
                }
            }
        }

        private int bestFree() {
            int best = NONE;
            int most = -1;
            int bound = Math.min(program.life.maxLive(), taken.length);
            for (int c = 0; c < bound; c++) {
                if (taken[c] == 0 && votes[c] > most) {
                    best = c;
                    most = votes[c];
                }
            }
            return best;
        }

        private int different() {
            Arrays.fill(taken, 0);
            int n = 0;
            for (int v = 0; v < program.values.size(); v++) {
                int c = program.values.at(v, COLOUR);
                if (c >= 0 && c < taken.length && taken[c] == 0) {
                    taken[c] = 1;
                    n++;
                }
            }
            return n;
        }
    }

    /** Gives slots until no point has more living values than there are registers. */
    private static final class Spiller {
        private final Table old = new Table(INS_WIDTH, INS_MOST);
        private Program program;
        private int victim;
        private int slot;

        int squeeze(Program squeezed, int k) {
            program = squeezed;
            program.life.measure(program);
            // No value gets a second slot, so there is one round a value of the text.
            for (int given = 0; given <= TEXT_VALUES_MOST; given++) {
                int point = program.life.firstAbove(k);
                if (point == NONE) {
                    return given;
                }
                victim = choose(point);
                if (victim == NONE || !spill()) {
                    return NOT_FITTED;
                }
                program.life.measure(program);
            }
            return NOT_FITTED;
        }

        private int choose(int point) {
            int best = NONE;
            int fewest = 0;
            for (int v = 0; v < program.texted; v++) {
                boolean open = program.values.at(v, SLOT) == NONE && program.life.holds(point, v);
                int uses = program.values.at(v, USES);
                if (open && (best == NONE || uses <= fewest)) {
                    best = v;
                    fewest = uses;
                }
            }
            return best;
        }

        private boolean spill() {
            slot = program.slots;
            program.slots++;
            program.values.set(victim, SLOT, slot);
            old.copyFrom(program.ins);
            program.ins.cut();
            int first = 0;
            for (int b = 0; b < program.blocks.size(); b++) {
                int n = program.blocks.at(b, INS_COUNT);
                program.blocks.set(b, FIRST_INS, program.ins.size());
                program.blocks.set(b, INS_COUNT, 0);
                if (!rewrite(b, first, n) || !rewriteEnd(b)) {
                    return false;
                }
                first += n;
            }
            program.values.set(victim, USES, 1);
            return true;
        }

        private boolean rewrite(int b, int first, int n) {
            boolean begun = program.values.at(victim, HOME) == b && program.values.at(victim, POINT) == 0;
            if (begun && !save(b)) {
                return false;
            }
            for (int row = first; row < first + n; row++) {
                int loaded = NONE;
                if (uses(row)) {
                    loaded = load(b);
                    if (loaded == NONE) {
                        return false;
                    }
                }
                int made = program.ins.addFrom(old, row);
                if (made == NONE) {
                    return false;
                }
                replace(program.ins, made, VALUE_1, loaded);
                replace(program.ins, made, VALUE_2, loaded);
                int result = old.at(row, RESULT);
                program.settle(b, result);
                if (result == victim && !save(b)) {
                    return false;
                }
            }
            return true;
        }

        /** The victim's own SAVE is never among the old rows, since it is only now being made. */
        private boolean uses(int row) {
            return old.at(row, VALUE_1) == victim || old.at(row, VALUE_2) == victim;
        }

        private boolean save(int b) {
            int row = program.addIns(b, SAVE, NONE);
            program.ins.set(row, VALUE_1, victim);
            program.ins.set(row, NUMBER_1, slot);
            return row != NONE;
        }

        private int load(int b) {
            int v = program.addValue(b, 0, NONE);
            int row = v == NONE ? NONE : program.addIns(b, LOAD, v);
            program.ins.set(row, NUMBER_1, slot);
            return row == NONE ? NONE : v;
        }

        private void replace(Table table, int row, int column, int loaded) {
            if (loaded != NONE && table.at(row, column) == victim) {
                table.set(row, column, loaded);
                program.values.raise(loaded, USES);
            }
        }

        private boolean rewriteEnd(int b) {
            boolean used = program.blocks.at(b, END_VALUE) == victim;
            for (int arm = 0; arm < program.arms.size() && !used; arm++) {
                used = program.arms.at(arm, ARM_BLOCK) == b && program.arms.at(arm, ARM_VALUE) == victim;
            }
            if (!used) {
                return true;
            }
            int loaded = load(b);
            replace(program.blocks, b, END_VALUE, loaded);
            for (int arm = 0; arm < program.arms.size(); arm++) {
                if (program.arms.at(arm, ARM_BLOCK) == b) {
                    replace(program.arms, arm, ARM_VALUE, loaded);
                }
            }
            return loaded != NONE;
        }
    }

    /** The rows into which a coloured function is lowered. */
    private static final class Code {
        private final Table rows = new Table(ROW_WIDTH, ROWS_MOST);
        private final int[] starts = new int[BLOCKS_MOST];
        private final int[] lasts = new int[BLOCKS_MOST];
        // By a move's D: its register S, or NONE.
        private final int[] sources = new int[VALUES_MOST];
        // By a register: how many moves left have it as their S.
        private final int[] readers = new int[VALUES_MOST];
        // By a D: 1 if it gets a number.
        private final int[] fixed = new int[VALUES_MOST];
        private final int[] numbers = new int[VALUES_MOST];
        private Program program;
        private int edges;
        private int left;

        void drop() {
            rows.cut();
        }

        int size() {
            return rows.size();
        }

        int cell(int row, int column) {
            return rows.at(row, column);
        }

        /** From this row on, a go belongs to no BLOCK's END. */
        int edges() {
            return edges;
        }

        int howMany(int op) {
            int n = 0;
            for (int row = 0; row < rows.size(); row++) {
                if (rows.at(row, OP) == op) {
                    n++;
                }
            }
            return n;
        }

        int assemble(Program lowered) {
            program = lowered;
            rows.cut();
            int blocks = Math.min(BLOCKS_MOST, program.blocks.size());
            for (int b = 0; b < blocks; b++) {
                starts[b] = rows.size();
                addEntry(b);
                addBody(b);
                addExit(b);
                addEnd(b);
            }
            edges = rows.size();
            for (int b = 0; b < blocks; b++) {
                aim(b, program.blocks.at(b, TO_1), ROW_1);
                aim(b, program.blocks.at(b, TO_2), ROW_2);
            }
            return rows.size();
        }

        private boolean endsBy(int b, int op) {
            return program.blocks.at(b, END_OP) == op;
        }

        private boolean hasPhis(int b) {
            return program.blocks.at(b, PHI_COUNT) > 0;
        }

        private void addEntry(int b) {
            int preds = program.graph.preds(b);
            if (!hasPhis(b) || Integer.bitCount(preds) != 1) {
                return;
            }
            for (int p = 0; p < program.blocks.size(); p++) {
                if ((preds >> p & 1) != 0 && endsBy(p, IF)) {
                    addMoves(p, b);
                }
            }
        }

        private void addBody(int b) {
            int first = program.blocks.at(b, FIRST_INS);
            for (int n = 0; n < program.blocks.at(b, INS_COUNT); n++) {
                int row = rows.addFrom(program.ins, first + n);
                toRegister(row, RESULT);
                toRegister(row, VALUE_1);
                toRegister(row, VALUE_2);
            }
        }

        private void toRegister(int row, int column) {
            rows.set(row, column, program.values.at(rows.at(row, column), COLOUR));
        }

        private void addExit(int b) {
            if (endsBy(b, GO)) {
                addMoves(b, program.blocks.at(b, TO_1));
            }
        }

        private void addEnd(int b) {
            int row = addRow(program.blocks.at(b, END_OP), NONE);
            rows.set(row, VALUE_1, program.values.at(program.blocks.at(b, END_VALUE), COLOUR));
            rows.set(row, NUMBER_1, program.blocks.at(b, END_NUMBER));
            lasts[b] = row;
        }

        private int addRow(int op, int d) {
            int row = rows.add();
            rows.set(row, OP, op);
            rows.set(row, RESULT, d);
            rows.set(row, NUMBER_1, 0);
            rows.set(row, NUMBER_2, 0);
            return row;
        }

        /** An if whose way needs moves that fit in neither block leads to an EDGE of its own. */
        private void aim(int b, int to, int column) {
            if (to < 0 || to >= starts.length || b < 0 || b >= lasts.length) {
                return;
            }
            boolean edge = endsBy(b, IF) && hasPhis(to) && Integer.bitCount(program.graph.preds(to)) > 1;
            if (!edge) {
                rows.set(lasts[b], column, starts[to]);
                return;
            }
            rows.set(lasts[b], column, rows.size());
            addMoves(b, to);
            int row = addRow(GO, NONE);
            rows.set(row, ROW_1, starts[to]);
        }

        private void addMoves(int from, int to) {
            Arrays.fill(sources, NONE);
            Arrays.fill(readers, 0);
            Arrays.fill(fixed, 0);
            left = 0;
            int first = program.blocks.at(to, FIRST_PHI);
            for (int n = 0; n < program.blocks.at(to, PHI_COUNT); n++) {
                gather(first + n, from);
            }
            int most = left;
            for (int n = 0; n < most && left > 0; n++) {
                int d = leastLeft(true);
                if (d != NONE) {
                    move(d);
                } else {
                    swap(leastLeft(false));
                }
            }
            for (int d = 0; d < fixed.length; d++) {
                if (fixed[d] != 0) {
                    rows.set(addRow(SET, d), NUMBER_1, numbers[d]);
                }
            }
        }

        private void gather(int phi, int from) {
            int d = program.values.at(program.phis.at(phi, PHI_RESULT), COLOUR);
            int arm = program.armFrom(phi, from);
            int v = program.arms.at(arm, ARM_VALUE);
            if (d < 0 || d >= sources.length) {
                return;
            }
            if (v == NONE) {
                fixed[d] = 1;
                numbers[d] = program.arms.at(arm, ARM_NUMBER);
                return;
            }
            int s = program.values.at(v, COLOUR);
            if (s >= 0 && s < readers.length && s != d) {
                sources[d] = s;
                readers[s]++;
                left++;
            }
        }

        private int leastLeft(boolean unread) {
            for (int d = 0; d < sources.length; d++) {
                if (sources[d] != NONE && (!unread || readers[d] == 0)) {
                    return d;
                }
            }
            return NONE;
        }

        private void move(int d) {
            if (d < 0 || d >= sources.length) {
                return;
            }
            int s = sources[d];
            rows.set(addRow(MOVE, d), VALUE_1, s);
            release(d, s);
        }

        private void release(int d, int s) {
            if (d >= 0 && d < sources.length && s >= 0 && s < readers.length) {
                sources[d] = NONE;
                readers[s]--;
                left--;
            }
        }

        /** Here every D left is the S of exactly one other, which finds its old content in S now. */
        private void swap(int d) {
            if (d < 0 || d >= sources.length) {
                return;
            }
            int s = sources[d];
            rows.set(addRow(SWAP, d), VALUE_1, s);
            release(d, s);
            for (int other = 0; other < sources.length; other++) {
                if (sources[other] == d) {
                    redirect(other, d, s);
                }
            }
        }

        private void redirect(int other, int d, int s) {
            if (other == s) {
                release(other, d);
            } else if (d >= 0 && d < readers.length && s >= 0 && s < readers.length) {
                sources[other] = s;
                readers[d]--;
                readers[s]++;
            }
        }
    }

    /** Runs a function or its code, and keeps what the latest run told. */
    private static final class Machine {
        private final int[] fed;
        private final int[] cells = new int[VALUES_MOST];
        private final int[] arriving = new int[TEXT_VALUES_MOST];
        private final int[] slots = new int[TEXT_VALUES_MOST];
        private final int[] store = new int[MEMORY_SIZE];
        private final int[] shown = new int[OUTPUT_KEPT];
        private int fedCount;
        private int fuel;
        private int steps;
        private int stop = NONE;
        private int returned;
        private int shownCount;
        private int taken;
        private boolean ran;
        private boolean going;

        Machine(int[] fed) {
            this.fed = fed;
        }

        void forget() {
            ran = false;
        }

        void begin(int inputCount, int most) {
            fedCount = inputCount;
            fuel = most;
            steps = 0;
            stop = NONE;
            returned = 0;
            shownCount = 0;
            taken = 0;
            ran = true;
            going = true;
            Arrays.fill(cells, 0);
            Arrays.fill(slots, 0);
            Arrays.fill(store, 0);
            Arrays.fill(shown, 0);
        }

        int tell(int what) {
            if (!ran) {
                return NONE;
            }
            switch (what) {
                case 0:
                    return stop;
                case 1:
                    return steps;
                case 2:
                    return returned;
                case 3:
                    return shownCount;
                case 4:
                    return taken;
                default:
                    return NONE;
            }
        }

        int shownAt(int i) {
            return ran && i >= 0 && i < shownCount && i < shown.length ? shown[i] : 0;
        }

        int storeAt(int a) {
            return ran && a >= 0 && a < store.length ? store[a] : 0;
        }

        /** Every BLOCK costs a STEP at least, so there are no more of them than STEPS. */
        int follow(Program program) {
            for (int v = 0; v < program.parameters; v++) {
                setCell(v, nextInput());
            }
            int b = 0;
            for (int n = 0; n <= FUEL_MOST && going; n++) {
                int first = program.blocks.at(b, FIRST_INS);
                int past = first + program.blocks.at(b, INS_COUNT);
                for (int row = first; row < past && going; row++) {
                    doIns(program.ins, row);
                }
                int to = going ? leave(program, b) : NONE;
                if (going) {
                    arrive(program, b, to);
                    b = to;
                }
            }
            return stop;
        }

        private int leave(Program program, int b) {
            int op = program.blocks.at(b, END_OP);
            int had = operand(program.blocks, b, END_VALUE);
            if (!mayStep()) {
                return NONE;
            }
            if (op == RET) {
                finish(had);
                return NONE;
            }
            return program.blocks.at(b, op == GO || had != 0 ? TO_1 : TO_2);
        }

        private void arrive(Program program, int from, int to) {
            int first = program.blocks.at(to, FIRST_PHI);
            int n = Math.min(arriving.length, program.blocks.at(to, PHI_COUNT));
            for (int i = 0; i < n; i++) {
                arriving[i] = operand(program.arms, program.armFrom(first + i, from), ARM_VALUE);
            }
            for (int i = 0; i < n; i++) {
                setCell(program.phis.at(first + i, PHI_RESULT), arriving[i]);
            }
        }

        int obey(Code code, Program program) {
            for (int v = 0; v < program.parameters; v++) {
                setCell(program.values.at(v, COLOUR), nextInput());
            }
            int row = 0;
            for (int n = 0; n < PACES_MOST && going; n++) {
                row = doRow(code, row);
            }
            return stop;
        }

        private int doRow(Code code, int row) {
            Table rows = code.rows;
            int op = rows.at(row, OP);
            switch (op) {
                case GO:
                    return row >= code.edges() || mayStep() ? rows.at(row, ROW_1) : row;
                case IF:
                    int had = operand(rows, row, VALUE_1);
                    return mayStep() ? rows.at(row, had != 0 ? ROW_1 : ROW_2) : row;
                case RET:
                    if (mayStep()) {
                        finish(operand(rows, row, VALUE_1));
                    }
                    return row;
                case MOVE:
                case SET:
                    setCell(rows.at(row, RESULT), operand(rows, row, VALUE_1));
                    return row + 1;
                case SWAP:
                    exchange(rows.at(row, RESULT), rows.at(row, VALUE_1));
                    return row + 1;
                default:
                    doIns(rows, row);
                    return row + 1;
            }
        }

        private void exchange(int d, int s) {
            int kept = cell(d);
            setCell(d, cell(s));
            setCell(s, kept);
        }

        private boolean mayStep() {
            if (steps >= fuel) {
                halt(OUT_OF_FUEL);
                return false;
            }
            steps++;
            return true;
        }

        private void halt(int why) {
            stop = why;
            going = false;
        }

        private void finish(int had) {
            returned = had;
            halt(RETURNED);
        }

        private int cell(int c) {
            return c >= 0 && c < cells.length ? cells[c] : 0;
        }

        private void setCell(int c, int what) {
            if (c >= 0 && c < cells.length) {
                cells[c] = what;
            }
        }

        /** The number's column is the one behind the value's. */
        private int operand(Table table, int row, int column) {
            int c = table.at(row, column);
            return c == NONE ? table.at(row, column + 1) : cell(c);
        }

        private int nextInput() {
            if (taken < 0 || taken >= fedCount || taken >= fed.length) {
                return 0;
            }
            taken++;
            return fed[taken - 1];
        }

        private void doIns(Table table, int row) {
            int op = table.at(row, OP);
            int x = operand(table, row, VALUE_1);
            int y = operand(table, row, VALUE_2);
            int d = table.at(row, RESULT);
            if (op == SAVE || op == LOAD) {
                doSlot(op, table.at(row, NUMBER_1), x, d);
                return;
            }
            boolean trap = (op == DIV || op == REM) && y == 0;
            if (trap && steps < fuel) {
                halt(TRAPPED);
                return;
            }
            if (mayStep()) {
                setCell(d, op < IN ? reckon(op, x, y) : touch(op, x, y));
            }
        }

        private void doSlot(int op, int slot, int x, int d) {
            if (slot < 0 || slot >= slots.length) {
                return;
            }
            if (op == SAVE) {
                slots[slot] = x;
            } else {
                setCell(d, slots[slot]);
            }
        }

        /** The OPS that have to do with more than their VALS. */
        private int touch(int op, int x, int y) {
            int a = x & MEMORY_SIZE - 1;
            switch (op) {
                case IN:
                    return nextInput();
                case GET:
                    return a < store.length ? store[a] : 0;
                case PUT:
                    if (a < store.length) {
                        store[a] = y;
                    }
                    return 0;
                default:
                    if (shownCount < shown.length) {
                        shown[shownCount] = x;
                    }
                    shownCount++;
                    return 0;
            }
        }

        private static int reckon(int op, int x, int y) {
            switch (op) {
                case COPY:
                    return x;
                case NEG:
                    return -x;
                case NOT:
                    return ~x;
                case ADD:
                    return x + y;
                case SUB:
                    return x - y;
                case MUL:
                    return x * y;
                case DIV:
                    return y == 0 ? 0 : x / y;
                case REM:
                    return y == 0 ? 0 : x % y;
                case AND:
                    return x & y;
                case OR:
                    return x | y;
                case XOR:
                    return x ^ y;
                case SHL:
                    return x << (y & 31);
                case SHR:
                    return x >>> (y & 31);
                case LT:
                    return x < y ? 1 : 0;
                case EQ:
                    return x == y ? 1 : 0;
                default:
                    return 0;
            }
        }
    }
}
