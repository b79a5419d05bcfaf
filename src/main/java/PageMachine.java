import java.util.Arrays;

/**
 * A machine for programs of a page language with a stack. Bytes are fed to a tape, the tape is
 * loaded as a program, and the program is run by fuel, one step for each value that it does.
 *
 * <p>This class has the face and the doing: calls, rounds, errors and the operators that steer
 * them. The operators on values are those of Values, the operators that draw those of Drawing.
 */
public final class PageMachine {
    public static final int BAD = -1;
    public static final int NO = -2;
    public static final int FULL = -3;

    // The kinds of values, as kindOf answers them; NOTHING is no value at all.
    private static final int NULL = 0, FALSE = 1, TRUE = 2, WHOLE = 3, REAL = 4, MARK = 5,
            STANDING = 6, DOING = 7, TEXT = 8, ARRAY = 9, PROCEDURE = 10, DICTIONARY = 11,
            OPERATOR = 12, SAVED = 13, NOTHING = 15;
    private static final long ABSENT = NOTHING;

    private static final int FINE = 0, STACK_UNDERFLOW = 1, STACK_OVERFLOW = 2, TYPE_CHECK = 3,
            RANGE = 4, UNDEFINED = 5, UNDEFINED_RESULT = 6, UNMATCHED_MARK = 7,
            DICTIONARIES_UNDERFLOW = 8, DICTIONARIES_OVERFLOW = 9, CALLS_OVERFLOW = 10,
            INVALID_EXIT = 11, LIMIT = 12, NO_POINT = 13, VM = 14, INVALID_RESTORE = 15,
            INVALID_FONT = 16;

    private static final int TAPE_BYTES = 65536, TAPE_WORDS = 16384, ALL_WORDS = 24000,
            ROW_BYTES = 127, BRACES = 64;
    private static final int OPERANDS = 500, OPENED = 20, CALLS = 250, NAME_CHAIN = 20,
            FUEL = 100000;
    private static final int ROWS = 16384, PLACES = 32768, BYTES = 65536, DICTIONARIES = 1024,
            KEYS = 16384, SAVES = 15, CHANGES = 40000, NAMES = 8192, NAME_BYTES = 131072,
            OUTPUT_BYTES = 65536;
    private static final long WORK = 40000000;
    private static final int ONE = 65536, HALF = 32768, PLACE = 536870912;
    private static final long BEYOND = 1L << 62, UNREAL = -BEYOND;
    private static final int PATH_PARTS = 3000, PILE = 12, CLIP_RUNS = 24000, STROKE_POINTS = 2000,
            STROKE_PIECES = 2000, STROKE_DASHES = 20000, HALF_WIDTH = 4194304;
    private static final int USER = 0, FONTS = 1, SYSTEM = DICTIONARIES;

    private static final int NO_PROGRAM = 0, RUNNING = 1, ENDED = 2, FAILED = 3;

    // The kinds of calls: the tape or a procedure, four loops, stopped, show.
    private static final int CODE = 0, LOOP = 1, REPEAT = 2, FOR = 3, FORALL = 4, STOPPED = 5,
            SHOW = 6;

    private static final int BEGINNING = 0, LINE = 1, CURVE = 2, CLOSING = 3;

    // Operators by their numbers, then their names with a letter for each operand that they take
    // (kindsFor tells what the letters mean), in the same order.
    private static final int DO_ADD = 0, DO_SUB = 1, DO_MUL = 2, DO_DIV = 3, DO_IDIV = 4,
            DO_MOD = 5, DO_NEG = 6, DO_ABS = 7, DO_CEILING = 8, DO_FLOOR = 9, DO_ROUND = 10,
            DO_TRUNCATE = 11, DO_SQRT = 12, DO_SIN = 13, DO_COS = 14, DO_ATAN = 15, DO_CVI = 16,
            DO_CVR = 17, DO_AND = 18, DO_OR = 19, DO_XOR = 20, DO_NOT = 21, DO_BITSHIFT = 22;
    private static final String NUMBER_OPERATORS =
            "add:nn sub:nn mul:nn div:nn idiv:ii mod:ii neg:n abs:n ceiling:n floor:n round:n truncate:n sqrt:n sin:n cos:n atan:nn cvi:x cvr:x and:vv or:vv xor:vv not:v bitshift:ii ";

    private static final int DO_EXEC = 23, DO_IF = 24, DO_IFELSE = 25, DO_LOOP = 26,
            DO_REPEAT = 27, DO_FOR = 28, DO_FORALL = 29, DO_EXIT = 30, DO_STOPPED = 31,
            DO_STOP = 32, DO_QUIT = 33, DO_LASTERROR = 34;
    private static final String STEERING_OPERATORS =
            "exec:v if:bp ifelse:bpp loop:p repeat:ip for:nnnp forall:cp exit: stopped:v stop: quit: lasterror: ";

    private static final int DO_POP = 35, DO_EXCH = 36, DO_DUP = 37, DO_CLEAR = 38, DO_COUNT = 39,
            DO_MARK = 40, DO_OPEN_ARRAY = 41, DO_OPEN_DICTIONARY = 42, DO_INDEX = 43,
            DO_ROLL = 44, DO_COPY = 45, DO_CLEARTOMARK = 46, DO_COUNTTOMARK = 47;
    private static final String STACK_OPERATORS =
            "pop:v exch:vv dup:v clear: count: mark: [: <<: index:i roll:ii copy:v cleartomark: counttomark: ";

    private static final int DO_EQ = 48, DO_NE = 49, DO_GT = 50, DO_GE = 51, DO_LT = 52,
            DO_LE = 53, DO_TYPE = 54, DO_XCHECK = 55, DO_CVX = 56, DO_CVLIT = 57, DO_CVN = 58,
            DO_CVS = 59, DO_WRITE = 60, DO_PRINT = 61;
    private static final String VALUE_OPERATORS =
            "eq:vv ne:vv gt:vv ge:vv lt:vv le:vv type:v xcheck:v cvx:v cvlit:v cvn:t cvs:vt =:v print:t ";

    private static final int DO_ARRAY = 62, DO_STRING = 63, DO_CLOSE_ARRAY = 64, DO_LENGTH = 65,
            DO_GET = 66, DO_PUT = 67, DO_GETINTERVAL = 68, DO_PUTINTERVAL = 69, DO_ALOAD = 70,
            DO_ASTORE = 71, DO_SEARCH = 72, DO_ANCHORSEARCH = 73;
    private static final String ROW_OPERATORS =
            "array:i string:i ]: length:l get:cv put:cvv getinterval:rii putinterval:rir aload:a astore:a search:tt anchorsearch:tt ";

    private static final int DO_DICT = 74, DO_BEGIN = 75, DO_END = 76, DO_DEF = 77, DO_STORE = 78,
            DO_LOAD = 79, DO_KNOWN = 80, DO_UNDEF = 81, DO_WHERE = 82, DO_CURRENTDICT = 83,
            DO_COUNTDICTSTACK = 84, DO_CLOSE_DICTIONARY = 85;
    private static final String DICTIONARY_OPERATORS =
            "dict:i begin:d end: def:kv store:kv load:k known:dk undef:dk where:k currentdict: countdictstack: >>: ";

    private static final int DO_MATRIX = 86, DO_CURRENTMATRIX = 87, DO_SETMATRIX = 88,
            DO_TRANSLATE = 89, DO_SCALE = 90, DO_ROTATE = 91, DO_CONCAT = 92, DO_TRANSFORM = 93,
            DO_DTRANSFORM = 94, DO_ITRANSFORM = 95;
    private static final String MATRIX_OPERATORS =
            "matrix: currentmatrix:a setmatrix:a translate:nn scale:nn rotate:n concat:a transform:nn dtransform:nn itransform:nn ";

    private static final int DO_NEWPATH = 96, DO_MOVETO = 97, DO_LINETO = 98, DO_CURVETO = 99,
            DO_RMOVETO = 100, DO_RLINETO = 101, DO_RCURVETO = 102, DO_CURRENTPOINT = 103,
            DO_CLOSEPATH = 104, DO_ARC = 105, DO_ARCN = 106, DO_FLATTENPATH = 107,
            DO_REVERSEPATH = 108, DO_PATHBBOX = 109;
    private static final String PATH_OPERATORS =
            "newpath: moveto:nn lineto:nn curveto:nnnnnn rmoveto:nn rlineto:nn rcurveto:nnnnnn currentpoint: closepath: arc:nnnnn arcn:nnnnn flattenpath: reversepath: pathbbox: ";

    private static final int DO_SETGRAY = 110, DO_CURRENTGRAY = 111, DO_SETLINEWIDTH = 112,
            DO_CURRENTLINEWIDTH = 113, DO_SETLINECAP = 114, DO_SETLINEJOIN = 115,
            DO_SETMITERLIMIT = 116, DO_SETDASH = 117, DO_SETFLAT = 118, DO_INITCLIP = 119,
            DO_GSAVE = 120, DO_GRESTORE = 121, DO_SAVE = 122, DO_RESTORE = 123;
    private static final String GRAPHICS_OPERATORS =
            "setgray:n currentgray: setlinewidth:n currentlinewidth: setlinecap:i setlinejoin:i setmiterlimit:n setdash:an setflat:n initclip: gsave: grestore: save: restore:s ";

    private static final int DO_FILL = 124, DO_EOFILL = 125, DO_CLIP = 126, DO_EOCLIP = 127,
            DO_ERASEPAGE = 128, DO_STROKE = 129, DO_DEFINEFONT = 130, DO_FINDFONT = 131,
            DO_SCALEFONT = 132, DO_SETFONT = 133, DO_CURRENTFONT = 134, DO_SHOW = 135,
            DO_SETCHARWIDTH = 136, OPERATORS = 137;
    private static final String PAINT_OPERATORS =
            "fill: eofill: clip: eoclip: erasepage: stroke: definefont:kd findfont:k scalefont:dn setfont:d currentfont: show:t setcharwidth:nn ";

    // The names of SYSTEM that are no operators have the numbers behind those.
    private static final int TRUE_NAME = 137, FALSE_NAME = 138, NULL_NAME = 139, SYSTEM_NAMES = 140;
    private static final String SYSTEM_VALUES = "true: false: null: ";

    // Names that the machine itself has to do with. They have numbers from the beginning, but are
    // there, and counted, only when a program makes them.
    private static final int FONT_MATRIX = 140, BUILD_GLYPH = 141, NULL_TYPE = 142,
            TRUTH_TYPE = 143, WHOLE_TYPE = 144, REAL_TYPE = 145, MARK_TYPE = 146, NAME_TYPE = 147,
            TEXT_TYPE = 148, ARRAY_TYPE = 149, DICTIONARY_TYPE = 150, OPERATOR_TYPE = 151,
            SAVE_TYPE = 152, KNOWN_NAMES = 153;
    private static final String OWN_NAMES =
            "FontMatrix: BuildGlyph: nulltype: booleantype: integertype: realtype: marktype: nametype: stringtype: arraytype: dicttype: operatortype: savetype: ";
    private static final int MOST_TAKEN = 6;

    private final int columns;
    private final int rows;
    private byte[] tape = new byte[256];
    private int tapeLength;
    private int faultPlace;
    private int state;
    private int failure;
    private long stepCount;
    private final Store store = new Store();
    private final Dictionaries dictionaries = new Dictionaries(store);
    private final Stacks stacks = new Stacks(store, dictionaries);
    private final Reader reader = new Reader(store, dictionaries);
    private final Values values = new Values(stacks, reader);
    private final Drawing drawing;

    public PageMachine(int columns, int rows) {
        this.columns = Math.max(1, Math.min(256, columns));
        this.rows = Math.max(1, Math.min(256, rows));
        drawing = new Drawing(stacks, this.columns, this.rows);
        makeAllNew();
    }

    public int feed(int a, int b, int c, int d, int e) {
        if (tapeLength + 20 > TAPE_BYTES) {
            return FULL;
        }
        tape = grown(tape, tapeLength + 20, TAPE_BYTES);
        feedWord(a);
        feedWord(b);
        feedWord(c);
        feedWord(d);
        feedWord(e);
        return tapeLength;
    }

    public int end(int n) {
        if (n < 0 || n > 20 || tapeLength < 20 - n) {
            return BAD;
        }
        tapeLength -= 20 - n;
        return tapeLength;
    }

    public int load() {
        makeAllNew();
        int fault = reader.read(tape, tapeLength);
        faultPlace = fault == FINE ? tapeLength : reader.faultPlace;
        tapeLength = 0;
        if (fault != FINE) {
            return -fault;
        }
        state = RUNNING;
        if (reader.wordCount > 0) {
            stacks.callCode(-1, reader.wordCount);
        }
        return 0;
    }

    public int place() {
        return faultPlace;
    }

    public int run(int fuel) {
        if (state == NO_PROGRAM || fuel < 0 || fuel > FUEL) {
            return BAD;
        }
        settle();
        for (int n = 0; n < fuel && state == RUNNING; n++) {
            stepCount++;
            Call top = stacks.topCall();
            int fault = top.kind == CODE ? perform(nextValue(top)) : makeRound(top);
            if (fault != FINE) {
                unwind(fault);
            }
            settle();
        }
        return state == RUNNING ? 1 : state == ENDED ? 0 : 2;
    }

    public long steps() {
        return stepCount;
    }

    public int error() {
        return failure;
    }

    public int depth(int what) {
        switch (what) {
            case 0:
                return stacks.height;
            case 1:
                return stacks.openedCount;
            case 2:
                return stacks.callCount;
            case 3:
                return drawing.pileCount;
            case 4:
                return drawing.graphics.path.partCount;
            case 5:
                return drawing.clipPixels();
            default:
                return BAD;
        }
    }

    public int kindOf(int k) {
        return k < 0 || k >= stacks.height ? BAD : kind(stacks.top(k));
    }

    public int numberOf(int k) {
        if (k < 0 || k >= stacks.height) {
            return 0;
        }
        long v = stacks.top(k);
        switch (kind(v)) {
            case WHOLE:
            case REAL:
            case SAVED:
                return payload(v);
            case STANDING:
            case DOING:
            case OPERATOR:
                return dictionaries.nameLength(payload(v));
            case TEXT:
            case ARRAY:
            case PROCEDURE:
                return store.rowLength[payload(v)];
            case DICTIONARY:
                return dictionaries.keysIn(payload(v));
            default:
                return 0;
        }
    }

    public int byteOf(int k, int i) {
        if (k < 0 || k >= stacks.height || i < 0) {
            return BAD;
        }
        long v = stacks.top(k);
        switch (kind(v)) {
            case STANDING:
            case DOING:
            case OPERATOR:
                return i < dictionaries.nameLength(payload(v))
                        ? dictionaries.nameBytes[dictionaries.nameStart[payload(v)] + i] & 255 : BAD;
            case TEXT:
                return i < store.rowLength[payload(v)]
                        ? store.bytes[store.rowStart[payload(v)] + i] & 255 : BAD;
            default:
                return BAD;
        }
    }

    public int gray(int column, int row) {
        if (column < 0 || column >= columns || row < 0 || row >= rows) {
            return BAD;
        }
        return drawing.painter.page[row * columns + column] & 255;
    }

    public int count(int row, int gray) {
        if (row < 0 || row >= rows) {
            return BAD;
        }
        int found = 0;
        for (int c = 0; c < columns; c++) {
            if ((drawing.painter.page[row * columns + c] & 255) == gray) {
                found++;
            }
        }
        return found;
    }

    public int output() {
        return stacks.outputLength;
    }

    public int outputAt(int i) {
        return i < 0 || i >= stacks.outputLength ? BAD : stacks.outputBytes[i] & 255;
    }

    private void feedWord(int word) {
        for (int shift = 24; shift >= 0; shift -= 8) {
            tape[tapeLength++] = (byte) (word >> shift);
        }
    }

    private void makeAllNew() {
        state = NO_PROGRAM;
        failure = FINE;
        stepCount = 0;
        dictionaries.renew();
        stacks.renew();
        drawing.renew();
    }

    /** The value that is due in a call of code; the call is gone before its last value is done. */
    private long nextValue(Call call) {
        long v = call.row < 0 ? reader.words[call.next]
                : store.places[store.rowStart[call.row] + call.next];
        call.next++;
        if (call.next >= call.end) {
            stacks.callCount--;
        }
        return v;
    }

    /** Does a value that was met in code, and what exec or stopped leads to in the same step. */
    private int perform(long met) {
        long v = met;
        boolean calling = false;
        // Each round but the first has taken an operand, so there are never more.
        for (int n = 0; n <= OPERANDS; n++) {
            if (kind(v) == DOING) {
                v = stacks.resolve(v);
                calling = true;
            }
            stacks.waiting = ABSENT;
            int fault;
            if (kind(v) == NOTHING) {
                fault = payload(v);
            } else if (kind(v) == OPERATOR) {
                int op = payload(v);
                fault = stacks.checkOperands(op);
                if (fault == FINE) {
                    fault = op < DO_EXEC ? values.reckon(op)
                            : op < DO_POP ? steer(op)
                            : op < DO_EQ ? values.arrange(op)
                            : op < DO_ARRAY ? values.judge(op)
                            : op < DO_DICT ? values.workOnRows(op)
                            : op < DO_MATRIX ? values.workOnDictionaries(op)
                            : op < DO_NEWPATH ? drawing.workOnMatrices(op)
                            : op < DO_SETGRAY ? drawing.workOnPaths(op)
                            : op < DO_FILL ? drawing.workOnGraphics(op)
                            : drawing.paint(op);
                }
            } else if (kind(v) == PROCEDURE && calling) {
                fault = stacks.callProcedure(v);
            } else {
                fault = stacks.push(v);
            }
            if (fault != FINE || stacks.waiting == ABSENT) {
                return fault;
            }
            v = stacks.waiting;
            calling = true;
        }
        return FINE;
    }

    private int steer(int op) {
        switch (op) {
            case DO_EXEC:
                return handOver(0);
            case DO_IF:
                return choose(2, kind(stacks.top(1)) == TRUE ? stacks.top(0) : ABSENT);
            case DO_IFELSE:
                return choose(3, kind(stacks.top(2)) == TRUE ? stacks.top(1) : stacks.top(0));
            case DO_LOOP:
                return beginLoop(LOOP, 1);
            case DO_REPEAT:
                return payload(stacks.top(1)) < 0 ? RANGE : beginLoop(REPEAT, 2);
            case DO_FOR:
                return beginFor();
            case DO_FORALL:
                return stacks.top(1) == value(DICTIONARY, SYSTEM) ? RANGE : beginLoop(FORALL, 2);
            case DO_EXIT:
                return leaveLoop();
            case DO_STOPPED:
                return handOver(1);
            case DO_STOP:
                unwind(FINE);
                return FINE;
            case DO_QUIT:
                finish(FINE);
                return FINE;
            default:
                return stacks.push(whole(stacks.lastError));
        }
    }

    /** Takes the operand of exec (no call of its own) or stopped (one) for perform to do. */
    private int handOver(int ownCalls) {
        long v = stacks.top(0);
        boolean calls = kind(v) == PROCEDURE && store.rowLength[payload(v)] > 0;
        if (stacks.callCount + ownCalls + (calls ? 1 : 0) > CALLS) {
            return CALLS_OVERFLOW;
        }
        if (ownCalls > 0) {
            stacks.newCall(STOPPED);
        }
        stacks.height--;
        stacks.waiting = v;
        return FINE;
    }

    private int choose(int taken, long procedure) {
        int fault = procedure == ABSENT ? FINE : stacks.callProcedure(procedure);
        if (fault == FINE) {
            stacks.height -= taken;
        }
        return fault;
    }

    /** A loop's call: its procedure is the topmost operand, what it goes through lies below. */
    private int beginLoop(int kind, int taken) {
        if (stacks.callCount == CALLS) {
            return CALLS_OVERFLOW;
        }
        Call call = stacks.newCall(kind);
        call.row = payload(stacks.top(0));
        call.source = taken > 1 ? stacks.top(1) : ABSENT;
        call.next = 0;
        call.latestKey = -1;
        if (kind == REPEAT) {
            call.end = payload(call.source);
        } else if (kind == FORALL && kind(call.source) != DICTIONARY) {
            call.end = store.rowLength[payload(call.source)];
        }
        stacks.height -= taken;
        return FINE;
    }

    private int beginFor() {
        boolean real = kind(stacks.top(3)) == REAL || kind(stacks.top(2)) == REAL
                || kind(stacks.top(1)) == REAL;
        long first = real ? asReal(stacks.top(3)) : payload(stacks.top(3));
        long stride = real ? asReal(stacks.top(2)) : payload(stacks.top(2));
        long last = real ? asReal(stacks.top(1)) : payload(stacks.top(1));
        if (first == UNREAL || stride == UNREAL || last == UNREAL) {
            return RANGE;
        }
        int fault = beginLoop(FOR, 4);
        if (fault == FINE) {
            Call call = stacks.topCall();
            call.number = first;
            call.stride = stride;
            call.last = last;
            call.real = real;
        }
        return fault;
    }

    private int leaveLoop() {
        for (int c = stacks.callCount - 1; c >= 0; c--) {
            int kind = stacks.calls[c].kind;
            if (kind == STOPPED) {
                return INVALID_EXIT;
            }
            if (kind >= LOOP && kind <= FORALL) {
                takeCallsAway(c);
                return FINE;
            }
        }
        return INVALID_EXIT;
    }

    /** The step before a round of a loop or a glyph of show: its values come, its call is made. */
    private int makeRound(Call call) {
        if (call.kind == SHOW) {
            int fault = drawing.beginGlyph(call);
            if (fault != FINE && !call.underWay) {
                stacks.callCount--;
            }
            return fault;
        }
        int fault = FINE;
        if (call.kind == FOR) {
            fault = stacks.push(value(call.real ? REAL : WHOLE, (int) call.number));
        } else if (call.kind == FORALL) {
            fault = pushElement(call);
        }
        call.underWay = true;
        call.next++;
        return fault != FINE ? fault : stacks.callProcedure(value(PROCEDURE, call.row));
    }

    private int pushElement(Call call) {
        if (kind(call.source) != DICTIONARY) {
            return stacks.push(store.element(call.source, call.next));
        }
        if (stacks.height + 2 > OPERANDS) {
            return STACK_OVERFLOW;
        }
        call.latestKey = call.dueKey;
        stacks.push(dictionaries.keys[call.latestKey]);
        return stacks.push(store.keyValues[call.latestKey]);
    }

    /** Does all that is no step, until a step is due or the program has ended. */
    private void settle() {
        for (int n = 0; n <= CALLS + 1 && state == RUNNING; n++) {
            if (stacks.callCount == 0) {
                finish(FINE);
                return;
            }
            Call top = stacks.topCall();
            int fault = top.underWay ? endRound(top) : FINE;
            if (fault == FINE) {
                if (isStepDue(top)) {
                    return;
                }
                stacks.callCount--;
                fault = top.kind == STOPPED ? stacks.push(FALSE) : FINE;
            }
            if (fault != FINE) {
                unwind(fault);
            }
        }
    }

    private int endRound(Call call) {
        call.underWay = false;
        if (call.kind == FOR) {
            call.number += call.stride;
            boolean fits = call.real ? Numbers.isReal(call.number) : call.number == (int) call.number;
            return fits ? FINE : RANGE;
        }
        if (call.kind == SHOW) {
            int fault = drawing.endGlyph(call);
            if (fault != FINE) {
                stacks.callCount--;
            }
            return fault;
        }
        return FINE;
    }

    private boolean isStepDue(Call call) {
        switch (call.kind) {
            case CODE:
            case LOOP:
                return true;
            case REPEAT:
            case SHOW:
                return call.next < call.end;
            case FOR:
                return call.stride >= 0 ? call.number <= call.last : call.number >= call.last;
            case FORALL:
                if (kind(call.source) != DICTIONARY) {
                    return call.next < call.end;
                }
                call.dueKey = call.isOver ? -1
                        : dictionaries.keyBehind(payload(call.source), call.latestKey);
                return call.dueKey >= 0;
            default:
                return false;
        }
    }

    /** What stop does, and what an error does that is no FINE one. */
    private void unwind(int fault) {
        int error = fault;
        for (int n = 0; n <= CALLS; n++) {
            if (error != FINE) {
                stacks.lastError = error;
            }
            int catcher = stacks.callCount - 1;
            while (catcher >= 0 && stacks.calls[catcher].kind != STOPPED) {
                catcher--;
            }
            if (catcher < 0) {
                finish(error);
                return;
            }
            takeCallsAway(catcher);
            error = stacks.push(TRUE);
            if (error == FINE) {
                return;
            }
        }
    }

    private void takeCallsAway(int downTo) {
        for (int c = stacks.callCount - 1; c >= downTo; c--) {
            Call call = stacks.calls[c];
            if (call.kind == SHOW && call.underWay) {
                drawing.goBackTo(call.pileBefore);
            }
        }
        stacks.callCount = downTo;
    }

    private void finish(int fault) {
        stacks.callCount = 0;
        failure = fault;
        state = fault == FINE ? ENDED : FAILED;
    }

    private static long value(int kind, int payload) {
        return (long) payload << 4 | kind;
    }

    private static long whole(int n) {
        return value(WHOLE, n);
    }

    private static long truth(boolean is) {
        return is ? TRUE : FALSE;
    }

    private static int kind(long v) {
        return (int) (v & 15);
    }

    private static int payload(long v) {
        return (int) (v >> 4);
    }

    private static boolean isNumber(long v) {
        return kind(v) == WHOLE || kind(v) == REAL;
    }

    /** The units of a number as a real, UNREAL when it is refused. */
    private static long asReal(long v) {
        int n = payload(v);
        if (kind(v) == REAL) {
            return n;
        }
        return n < -32767 || n > 32767 ? UNREAL : (long) n * ONE;
    }

    private static byte[] grown(byte[] row, int wanted, int most) {
        return wanted <= row.length ? row
                : Arrays.copyOf(row, Math.min(most, Math.max(wanted, 2 * row.length)));
    }

    private static int[] grown(int[] row, int wanted, int most) {
        return wanted <= row.length ? row
                : Arrays.copyOf(row, Math.min(most, Math.max(wanted, 2 * row.length)));
    }

    private static long[] grown(long[] row, int wanted, int most) {
        return wanted <= row.length ? row
                : Arrays.copyOf(row, Math.min(most, Math.max(wanted, 2 * row.length)));
    }

    /** One of THE CALLS. */
    private static final class Call {
        int kind;
        int row;
        int next;
        int end;
        boolean underWay;
        boolean isOver;
        long source;
        int latestKey;
        int dueKey;
        long number;
        long stride;
        long last;
        boolean real;
        int font;
        int pileBefore;
        int x;
        int y;
        int widthX;
        int widthY;
        final int[] matrix = new int[6];
    }

    /** Numbers beyond sums: roots, sines, angles, and what six units as a matrix do. */
    private static final class Numbers {
        static final long QUARTER = 90L * ONE, TURN = 360L * ONE;
        private static final long GREATEST_ROOT = 3037000499L;
        private static final int[] SINES = {0, 1144, 2287, 3430, 4572, 5712, 6850, 7987, 9121,
            10252, 11380, 12505, 13626, 14742, 15855, 16962, 18064, 19161, 20252, 21336, 22415,
            23486, 24550, 25607, 26656, 27697, 28729, 29753, 30767, 31772, 32768, 33754, 34729,
            35693, 36647, 37590, 38521, 39441, 40348, 41243, 42126, 42995, 43852, 44695, 45525,
            46341, 47143, 47930, 48703, 49461, 50203, 50931, 51643, 52339, 53020, 53684, 54332,
            54963, 55578, 56175, 56756, 57319, 57865, 58393, 58903, 59396, 59870, 60326, 60764,
            61183, 61584, 61966, 62328, 62672, 62997, 63303, 63589, 63856, 64104, 64332, 64540,
            64729, 64898, 65048, 65177, 65287, 65376, 65446, 65496, 65526, 65536};

        static boolean isReal(long units) {
            return units > -2147483648L && units < 2147483648L;
        }

        static boolean isPlace(long units) {
            return units >= -PLACE && units <= PLACE;
        }

        /** The greatest whole number not above n / d, for d above 0. */
        static long floored(long n, long d) {
            long q = n / d;
            return n % d < 0 ? q - 1 : q;
        }

        /** n / d ROUNDED, for d above 0; nothing is doubled, so that nothing leaves the 64 bits. */
        static long rounded(long n, long d) {
            long q = n / d;
            long left = n % d;
            if (left < 0) {
                q--;
                left += d;
            }
            return left >= d - left ? q + 1 : q;
        }

        /** The greatest whole number whose square is not above n. */
        static long root(long n) {
            long found = 0;
            for (long bit = 1L << 31; bit > 0; bit >>= 1) {
                long tried = found + bit;
                if (tried <= GREATEST_ROOT && tried * tried <= n) {
                    found = tried;
                }
            }
            return found;
        }

        static int sine(long degrees) {
            long t = Math.floorMod(degrees, TURN);
            boolean below = t >= 2 * QUARTER;
            if (below) {
                t -= 2 * QUARTER;
            }
            if (t > QUARTER) {
                t = 2 * QUARTER - t;
            }
            int d = (int) (t >> 16);
            long behind = t & (ONE - 1);
            long s = SINES[d];
            if (behind > 0) {
                s += (SINES[d + 1] - s) * behind + HALF >> 16;
            }
            return (int) (below ? -s : s);
        }

        static int cosine(long degrees) {
            return sine(degrees + QUARTER);
        }

        /** The ANGLE of a point that is not (0, 0), in units of degrees. */
        static int angle(long x, long y) {
            long a = QUARTER;
            if (y == 0) {
                a = 0;
            } else if (x != 0) {
                long least = leastAngle(Math.abs(x), Math.abs(y), false);
                long greatest = leastAngle(Math.abs(x), Math.abs(y), true) - 1;
                a = least + greatest >> 1;
            }
            if (x < 0) {
                a = 2 * QUARTER - a;
            }
            if (y < 0 && a != 0) {
                a = TURN - a;
            }
            return (int) a;
        }

        /** The least angle with x sin not below y cos, or, if it is to be above, above y cos. */
        private static long leastAngle(long x, long y, boolean above) {
            long low = 0;
            long high = QUARTER;
            for (int n = 0; n < 32 && low < high; n++) {
                long middle = low + high >> 1;
                long more = x * sine(middle) - y * sine(middle + QUARTER);
                if (above ? more > 0 : more >= 0) {
                    high = middle;
                } else {
                    low = middle + 1;
                }
            }
            return low;
        }

        // A sum that leaves the 64 bits comes out far beyond all reals, so it is refused as well.
        static long turnedX(int[] m, long x, long y) {
            return x * m[0] + y * m[2] + HALF >> 16;
        }

        static long turnedY(int[] m, long x, long y) {
            return x * m[1] + y * m[3] + HALF >> 16;
        }

        static long movedX(int[] m, long x, long y) {
            return x * m[0] + y * m[2] + (long) m[4] * ONE + HALF >> 16;
        }

        static long movedY(int[] m, long x, long y) {
            return x * m[1] + y * m[3] + (long) m[5] * ONE + HALF >> 16;
        }

        /** Puts m BEFORE n into a matrix that may be one of both; false when that is no matrix. */
        static boolean putBefore(int[] m, int[] n, int[] result) {
            long a = turnedX(n, m[0], m[1]);
            long b = turnedY(n, m[0], m[1]);
            long c = turnedX(n, m[2], m[3]);
            long d = turnedY(n, m[2], m[3]);
            long e = movedX(n, m[4], m[5]);
            long f = movedY(n, m[4], m[5]);
            if (!isReal(a) || !isReal(b) || !isReal(c) || !isReal(d) || !isReal(e) || !isReal(f)) {
                return false;
            }
            setMatrix(result, (int) a, (int) b, (int) c, (int) d);
            result[4] = (int) e;
            result[5] = (int) f;
            return true;
        }

        static void setMatrix(int[] m, int a, int b, int c, int d) {
            m[0] = a;
            m[1] = b;
            m[2] = c;
            m[3] = d;
            m[4] = 0;
            m[5] = 0;
        }

        static int invert(int[] m, int[] result) {
            long sized = (long) m[0] * m[3] - (long) m[1] * m[2];
            if (sized == 0) {
                return UNDEFINED_RESULT;
            }
            long sign = sized < 0 ? -1 : 1;
            sized *= sign;
            long a = rounded(((long) m[3] << 32) * sign, sized);
            long b = rounded(((long) -m[1] << 32) * sign, sized);
            long c = rounded(((long) -m[2] << 32) * sign, sized);
            long d = rounded(((long) m[0] << 32) * sign, sized);
            long e = roundedUnits(((long) m[2] * m[5] - (long) m[3] * m[4]) * sign, sized);
            long f = roundedUnits(((long) m[1] * m[4] - (long) m[0] * m[5]) * sign, sized);
            if (!isReal(a) || !isReal(b) || !isReal(c) || !isReal(d) || !isReal(e) || !isReal(f)) {
                return RANGE;
            }
            setMatrix(result, (int) a, (int) b, (int) c, (int) d);
            result[4] = (int) e;
            result[5] = (int) f;
            return FINE;
        }

        /** 65536 n / d ROUNDED, by doubling what is left, as 65536 n may leave the 64 bits. */
        private static long roundedUnits(long n, long d) {
            long q = floored(n, d);
            long left = n - q * d;
            if (q < -ONE || q > ONE) {
                return UNREAL;
            }
            for (int bit = 0; bit < 16; bit++) {
                boolean one = left >= d - left;
                left = one ? left - (d - left) : left + left;
                q = 2 * q + (one ? 1 : 0);
            }
            return left >= d - left ? q + 1 : q;
        }
    }

    /** Rows with their places and bytes, the values of keys, and what saves remember of them. */
    private static final class Store {
        private static final int NUMBER = 0, SAVED_ROWS = 1, SAVED_PLACES = 2, SAVED_BYTES = 3,
                SAVED_DICTIONARIES = 4, SAVED_KEYS = 5, SAVED_CHANGES = 6;
        int[] rowStart = new int[64];
        int[] rowLength = new int[64];
        int rowCount;
        long[] places = new long[256];
        int[] placeStamps = new int[256];
        int placeCount;
        byte[] bytes = new byte[256];
        int byteCount;
        long[] keyValues = new long[64];
        int[] keyStamps = new int[64];
        int keyCount;
        int dictionaryCount;
        /** What was changed, and where with the stamp that it had; made by the first save. */
        private long[] changedValues;
        private long[] changedPlaces;
        private int changeCount;
        private final int[][] saves = new int[SAVES][7];
        int saveCount;
        private int saveNumber;

        void renew() {
            rowCount = 0;
            placeCount = 0;
            byteCount = 0;
            keyCount = 0;
            dictionaryCount = 0;
            changeCount = 0;
            saveCount = 0;
            saveNumber = 0;
            Arrays.fill(placeStamps, 0);
            Arrays.fill(keyStamps, 0);
        }

        boolean hasRoom(int moreRows, int morePlaces, int moreBytes) {
            return rowCount + moreRows <= ROWS && placeCount + morePlaces <= PLACES
                    && byteCount + moreBytes <= BYTES;
        }

        /** A new row that begins at a place or byte; its room has been looked at. */
        int takeRow(int start, int length) {
            rowStart = grown(rowStart, rowCount + 1, ROWS);
            rowLength = grown(rowLength, rowCount + 1, ROWS);
            rowStart[rowCount] = start;
            rowLength[rowCount] = length;
            return rowCount++;
        }

        int takeArray(int n) {
            int start = placeCount;
            placeCount += n;
            places = grown(places, placeCount, PLACES);
            placeStamps = grown(placeStamps, placeCount, PLACES);
            Arrays.fill(places, start, placeCount, NULL);
            return takeRow(start, n);
        }

        int takeText(int n) {
            int start = byteCount;
            byteCount += n;
            bytes = grown(bytes, byteCount, BYTES);
            Arrays.fill(bytes, start, byteCount, (byte) 0);
            return takeRow(start, n);
        }

        long element(long row, int i) {
            int at = rowStart[payload(row)] + i;
            return kind(row) == TEXT ? whole(bytes[at] & 255) : places[at];
        }

        boolean setPlace(int place, long v) {
            if (saveCount > 0 && place < saves[saveCount - 1][SAVED_PLACES]
                    && placeStamps[place] != saves[saveCount - 1][NUMBER]) {
                if (!remember(place, places[place], placeStamps[place])) {
                    return false;
                }
                placeStamps[place] = saves[saveCount - 1][NUMBER];
            }
            places[place] = v;
            return true;
        }

        boolean setKeyValue(int key, long v) {
            if (saveCount > 0 && key < saves[saveCount - 1][SAVED_KEYS]
                    && keyStamps[key] != saves[saveCount - 1][NUMBER]) {
                if (!remember(PLACES + key, keyValues[key], keyStamps[key])) {
                    return false;
                }
                keyStamps[key] = saves[saveCount - 1][NUMBER];
            }
            keyValues[key] = v;
            return true;
        }

        int takeKey(long v) {
            keyValues = grown(keyValues, keyCount + 1, KEYS);
            keyStamps = grown(keyStamps, keyCount + 1, KEYS);
            keyValues[keyCount] = v;
            return keyCount++;
        }

        /** The stamp is remembered too: behind a restore the change for an older save counts still. */
        private boolean remember(int where, long old, int stamp) {
            if (changeCount == CHANGES) {
                return false;
            }
            changedValues[changeCount] = old;
            changedPlaces[changeCount] = (long) stamp << 16 | where;
            changeCount++;
            return true;
        }

        int takeSave() {
            if (changedValues == null) {
                changedValues = new long[CHANGES];
                changedPlaces = new long[CHANGES];
            }
            saveNumber++;
            int[] save = saves[saveCount];
            save[NUMBER] = saveNumber;
            save[SAVED_ROWS] = rowCount;
            save[SAVED_PLACES] = placeCount;
            save[SAVED_BYTES] = byteCount;
            save[SAVED_DICTIONARIES] = dictionaryCount;
            save[SAVED_KEYS] = keyCount;
            save[SAVED_CHANGES] = changeCount;
            saveCount++;
            return saveNumber;
        }

        /** Which of the saves that are not gone has a number, -1 if none. */
        int findSave(int number) {
            for (int s = 0; s < saveCount; s++) {
                if (saves[s][NUMBER] == number) {
                    return s;
                }
            }
            return -1;
        }

        boolean isNewer(long v, int save) {
            switch (kind(v)) {
                case TEXT:
                case ARRAY:
                case PROCEDURE:
                    return payload(v) >= saves[save][SAVED_ROWS];
                case DICTIONARY:
                    return payload(v) >= saves[save][SAVED_DICTIONARIES] && payload(v) != SYSTEM;
                default:
                    return false;
            }
        }

        int keysAt(int save) {
            return saves[save][SAVED_KEYS];
        }

        /** Everything is as it was at a save; the keys that came since are unlinked already. */
        void goBack(int save) {
            int[] marks = saves[save];
            for (int c = changeCount - 1; c >= marks[SAVED_CHANGES]; c--) {
                int where = (int) (changedPlaces[c] & 65535);
                int stamp = (int) (changedPlaces[c] >> 16);
                if (where < PLACES) {
                    places[where] = changedValues[c];
                    placeStamps[where] = stamp;
                } else {
                    keyValues[where - PLACES] = changedValues[c];
                    keyStamps[where - PLACES] = stamp;
                }
            }
            changeCount = marks[SAVED_CHANGES];
            rowCount = marks[SAVED_ROWS];
            placeCount = marks[SAVED_PLACES];
            byteCount = marks[SAVED_BYTES];
            dictionaryCount = marks[SAVED_DICTIONARIES];
            keyCount = marks[SAVED_KEYS];
            saveCount = save;
        }
    }

    /** The names, and the dictionaries: keys by hash, and in the order in which they first came. */
    private static final class Dictionaries {
        private static final int NAME_HEADS = 1024, KEY_HEADS = 2048, KNOWN_BYTES = 2048;
        private final Store store;
        int[] nameStart = new int[256];
        byte[] nameBytes = new byte[KNOWN_BYTES];
        private int[] nextName = new int[256];
        private final int[] nameHeads = new int[NAME_HEADS];
        private int nameCount;
        private int countedNames;
        private int countedBytes;
        private final boolean[] isThere = new boolean[KNOWN_NAMES];
        private int[] firstKey = new int[16];
        private int[] lastKey = new int[16];
        long[] keys = new long[64];
        private int[] owner = new int[64];
        private int[] following = new int[64];
        private int[] previous = new int[64];
        private int[] chained = new int[64];
        private final int[] keyHeads = new int[KEY_HEADS];
        /** The letters of the kinds that each operator takes, MOST_TAKEN for each, 0 for none. */
        final byte[] taken = new byte[OPERATORS * MOST_TAKEN];

        Dictionaries(Store store) {
            this.store = store;
            Arrays.fill(nameHeads, -1);
            Arrays.fill(keyHeads, -1);
            byte[] spelling = new byte[32];
            putKnown(NUMBER_OPERATORS, spelling);
            putKnown(STEERING_OPERATORS, spelling);
            putKnown(STACK_OPERATORS, spelling);
            putKnown(VALUE_OPERATORS, spelling);
            putKnown(ROW_OPERATORS, spelling);
            putKnown(DICTIONARY_OPERATORS, spelling);
            putKnown(MATRIX_OPERATORS, spelling);
            putKnown(PATH_OPERATORS, spelling);
            putKnown(GRAPHICS_OPERATORS, spelling);
            putKnown(PAINT_OPERATORS, spelling);
            putKnown(SYSTEM_VALUES, spelling);
            putKnown(OWN_NAMES, spelling);
        }

        private void putKnown(String names, byte[] spelling) {
            int length = 0;
            int letters = -1;
            for (int i = 0; i < names.length(); i++) {
                char c = names.charAt(i);
                if (c == ' ') {
                    putName(spelling, 0, length);
                    length = 0;
                    letters = -1;
                } else if (c == ':') {
                    letters = 0;
                } else if (letters < 0) {
                    spelling[length++] = (byte) c;
                } else {
                    taken[nameCount * MOST_TAKEN + letters++] = (byte) c;
                }
            }
        }

        void renew() {
            unlinkKeys(0);
            for (int id = nameCount - 1; id >= KNOWN_NAMES; id--) {
                nameHeads[spread(nameBytes, nameStart[id], nameLength(id))] = nextName[id];
            }
            nameCount = KNOWN_NAMES;
            countedNames = 0;
            countedBytes = 0;
            for (int id = 0; id < KNOWN_NAMES; id++) {
                isThere[id] = id < SYSTEM_NAMES;
            }
            store.renew();
            takeDictionary();
            takeDictionary();
        }

        int nameLength(int id) {
            return nameStart[id + 1] - nameStart[id];
        }

        private static int spread(byte[] row, int start, int length) {
            int mixed = length;
            for (int i = 0; i < length; i++) {
                mixed = mixed * 31 + row[start + i];
            }
            return (mixed ^ mixed >>> 13) & NAME_HEADS - 1;
        }

        /** The number of the name with these bytes, -1 if it has none. */
        private int findName(byte[] row, int start, int length) {
            int id = nameHeads[spread(row, start, length)];
            for (int n = 0; n < NAMES + KNOWN_NAMES && id >= 0; n++) {
                if (nameLength(id) == length && isNameAt(id, row, start)) {
                    return id;
                }
                id = nextName[id];
            }
            return -1;
        }

        boolean isNameAt(int id, byte[] row, int start) {
            for (int i = nameStart[id]; i < nameStart[id + 1]; i++) {
                if (nameBytes[i] != row[start + i - nameStart[id]]) {
                    return false;
                }
            }
            return true;
        }

        /** The name with these bytes, made if it is not there; -1 if there is no room for it. */
        int makeName(byte[] row, int start, int length) {
            int id = findName(row, start, length);
            if (id >= 0) {
                return makeKnown(id) ? id : -1;
            }
            if (!countName(length)) {
                return -1;
            }
            putName(row, start, length);
            return nameCount - 1;
        }

        private boolean countName(int length) {
            if (countedNames == NAMES || countedBytes + length > NAME_BYTES) {
                return false;
            }
            countedNames++;
            countedBytes += length;
            return true;
        }

        /** Makes a name that has a number, if it is not there; false if there is no room for it. */
        boolean makeKnown(int id) {
            if (id < KNOWN_NAMES && !isThere[id]) {
                isThere[id] = countName(nameLength(id));
                return isThere[id];
            }
            return true;
        }

        private void putName(byte[] row, int start, int length) {
            int begin = nameStart[nameCount];
            nameBytes = grown(nameBytes, begin + length, KNOWN_BYTES + NAME_BYTES);
            nameStart = grown(nameStart, nameCount + 2, KNOWN_NAMES + NAMES + 1);
            nextName = grown(nextName, nameCount + 1, KNOWN_NAMES + NAMES);
            System.arraycopy(row, start, nameBytes, begin, length);
            nameStart[nameCount + 1] = begin + length;
            int head = spread(row, start, length);
            nextName[nameCount] = nameHeads[head];
            nameHeads[head] = nameCount;
            nameCount++;
        }

        boolean hasRoom() {
            return store.dictionaryCount < DICTIONARIES;
        }

        int takeDictionary() {
            int id = store.dictionaryCount++;
            firstKey = grown(firstKey, id + 1, DICTIONARIES);
            lastKey = grown(lastKey, id + 1, DICTIONARIES);
            firstKey[id] = -1;
            lastKey[id] = -1;
            return id;
        }

        /** What counts as a key for a value; ABSENT for a text that is no name yet. */
        long keyFor(long v) {
            int what = payload(v);
            switch (kind(v)) {
                case DOING:
                    return value(STANDING, what);
                case PROCEDURE:
                    return value(ARRAY, what);
                case REAL:
                    return (what & ONE - 1) == 0 ? whole(what >> 16) : v;
                case TEXT:
                    int id = findName(store.bytes, store.rowStart[what], store.rowLength[what]);
                    return id < 0 || id < KNOWN_NAMES && !isThere[id] ? ABSENT : value(STANDING, id);
                default:
                    return v;
            }
        }

        boolean isTooLong(long key) {
            return kind(key) == TEXT && store.rowLength[payload(key)] > ROW_BYTES;
        }

        private static int headOf(int dictionary, long key) {
            long mixed = (key + 1) * 0x9E3779B97F4A7C15L + dictionary * 0xC2B2AE3D27D4EB4FL;
            return (int) (mixed >>> 40) & KEY_HEADS - 1;
        }

        private int slotOf(int dictionary, long key) {
            int slot = keyHeads[headOf(dictionary, key)];
            for (int n = 0; n < KEYS && slot >= 0; n++) {
                if (keys[slot] == key && owner[slot] == dictionary) {
                    return slot;
                }
                slot = chained[slot];
            }
            return -1;
        }

        /** The value of a key (by keyFor) in a dictionary, ABSENT if it has it not. */
        long find(int dictionary, long key) {
            if (key == ABSENT) {
                return ABSENT;
            }
            if (dictionary == SYSTEM) {
                return kind(key) == STANDING && payload(key) < SYSTEM_NAMES
                        ? systemValue(payload(key)) : ABSENT;
            }
            int slot = slotOf(dictionary, key);
            return slot < 0 ? ABSENT : store.keyValues[slot];
        }

        private static long systemValue(int name) {
            switch (name) {
                case TRUE_NAME:
                    return TRUE;
                case FALSE_NAME:
                    return FALSE;
                case NULL_NAME:
                    return NULL;
                default:
                    return value(OPERATOR, name);
            }
        }

        /** Sets a value for what is the key for v, whose length has been looked at. */
        int define(int dictionary, long v, long w) {
            if (dictionary == SYSTEM) {
                return RANGE;
            }
            long key = keyFor(v);
            if (key != ABSENT) {
                return setKey(dictionary, key, w);
            }
            if (store.keyCount == KEYS) {
                return VM;
            }
            int row = payload(v);
            int id = makeName(store.bytes, store.rowStart[row], store.rowLength[row]);
            return id < 0 ? VM : setKey(dictionary, value(STANDING, id), w);
        }

        private int setKey(int dictionary, long key, long w) {
            int slot = slotOf(dictionary, key);
            if (slot >= 0) {
                return store.setKeyValue(slot, w) ? FINE : VM;
            }
            if (store.keyCount == KEYS) {
                return VM;
            }
            linkKey(dictionary, key, store.takeKey(w));
            return FINE;
        }

        private void linkKey(int dictionary, long key, int slot) {
            keys = grown(keys, slot + 1, KEYS);
            owner = grown(owner, slot + 1, KEYS);
            following = grown(following, slot + 1, KEYS);
            previous = grown(previous, slot + 1, KEYS);
            chained = grown(chained, slot + 1, KEYS);
            keys[slot] = key;
            owner[slot] = dictionary;
            following[slot] = -1;
            previous[slot] = lastKey[dictionary];
            if (previous[slot] < 0) {
                firstKey[dictionary] = slot;
            } else {
                following[previous[slot]] = slot;
            }
            lastKey[dictionary] = slot;
            int head = headOf(dictionary, key);
            chained[slot] = keyHeads[head];
            keyHeads[head] = slot;
        }

        /** The latest keys go first, so each one is the head of its chain and its dictionary's last. */
        void unlinkKeys(int downTo) {
            for (int slot = store.keyCount - 1; slot >= downTo; slot--) {
                int dictionary = owner[slot];
                keyHeads[headOf(dictionary, keys[slot])] = chained[slot];
                lastKey[dictionary] = previous[slot];
                if (previous[slot] < 0) {
                    firstKey[dictionary] = -1;
                } else {
                    following[previous[slot]] = -1;
                }
            }
        }

        int remove(int dictionary, long key) {
            int slot = key == ABSENT ? -1 : slotOf(dictionary, key);
            if (slot < 0 || store.keyValues[slot] == ABSENT) {
                return FINE;
            }
            return store.setKeyValue(slot, ABSENT) ? FINE : VM;
        }

        /** The next key that is there behind another one (-1: the first one), -1 if none. */
        int keyBehind(int dictionary, int slot) {
            int found = slot < 0 ? firstKey[dictionary] : following[slot];
            for (int n = 0; n < KEYS && found >= 0 && store.keyValues[found] == ABSENT; n++) {
                found = following[found];
            }
            return found;
        }

        int keysIn(int dictionary) {
            if (dictionary == SYSTEM) {
                return SYSTEM_NAMES;
            }
            int found = 0;
            int slot = keyBehind(dictionary, -1);
            for (int n = 0; n < KEYS && slot >= 0; n++) {
                found++;
                slot = keyBehind(dictionary, slot);
            }
            return found;
        }

        /** Gives one dictionary all keys of another one, in their order; VM leaves what came. */
        int copyKeys(int from, int to) {
            int slot = keyBehind(from, -1);
            for (int n = 0; n < KEYS && slot >= 0; n++) {
                int fault = setKey(to, keys[slot], store.keyValues[slot]);
                if (fault != FINE) {
                    return fault;
                }
                slot = keyBehind(from, slot);
            }
            return FINE;
        }
    }

    /** Operands, opened dictionaries, calls, the output and the work that is counted. */
    private static final class Stacks {
        final Store store;
        final Dictionaries dictionaries;
        final long[] operands = new long[OPERANDS];
        int height;
        final int[] opened = new int[OPENED];
        int openedCount;
        final Call[] calls = new Call[CALLS];
        int callCount;
        byte[] outputBytes = new byte[256];
        int outputLength;
        long work;
        int lastError;
        /** What exec or stopped has taken and is to be done in the same step. */
        long waiting = ABSENT;

        Stacks(Store store, Dictionaries dictionaries) {
            this.store = store;
            this.dictionaries = dictionaries;
        }

        void renew() {
            height = 0;
            opened[0] = SYSTEM;
            opened[1] = USER;
            openedCount = 2;
            callCount = 0;
            outputLength = 0;
            work = 0;
            lastError = FINE;
            waiting = ABSENT;
        }

        long top(int k) {
            return operands[height - 1 - k];
        }

        boolean fits(int more) {
            return height + more <= OPERANDS;
        }

        int push(long v) {
            if (height == OPERANDS) {
                return STACK_OVERFLOW;
            }
            operands[height++] = v;
            return FINE;
        }

        /** Puts a result in the place of one operand or more. */
        int give(int taken, long v) {
            height -= taken;
            operands[height++] = v;
            return FINE;
        }

        boolean canWork(long more) {
            if (work + more > WORK) {
                return false;
            }
            work += more;
            return true;
        }

        /** Whether the operands are as many, and of the kinds, that an operator takes. */
        int checkOperands(int op) {
            int wanted = 0;
            while (wanted < MOST_TAKEN && dictionaries.taken[op * MOST_TAKEN + wanted] != 0) {
                wanted++;
            }
            if (height < wanted) {
                return STACK_UNDERFLOW;
            }
            for (int i = 0; i < wanted; i++) {
                int kinds = kindsFor(dictionaries.taken[op * MOST_TAKEN + i]);
                if ((kinds >> kind(top(wanted - 1 - i)) & 1) == 0) {
                    return TYPE_CHECK;
                }
            }
            return FINE;
        }

        /** The kinds that a letter stands for, a bit each. */
        private static int kindsFor(int letter) {
            int rowKinds = 1 << TEXT | 1 << ARRAY | 1 << PROCEDURE;
            switch (letter) {
                case 'n':
                    return 1 << WHOLE | 1 << REAL;
                case 'i':
                    return 1 << WHOLE;
                case 'x':
                    return 1 << WHOLE | 1 << REAL | 1 << TEXT;
                case 'b':
                    return 1 << TRUE | 1 << FALSE;
                case 'p':
                    return 1 << PROCEDURE;
                case 't':
                    return 1 << TEXT;
                case 'a':
                    return 1 << ARRAY | 1 << PROCEDURE;
                case 'r':
                    return rowKinds;
                case 'c':
                    return rowKinds | 1 << DICTIONARY;
                case 'l':
                    return rowKinds | 1 << DICTIONARY | 1 << STANDING | 1 << DOING;
                case 'd':
                    return 1 << DICTIONARY;
                case 'k':
                    return ~(1 << NULL);
                case 's':
                    return 1 << SAVED;
                default:
                    return ~0;
            }
        }

        Call topCall() {
            return calls[callCount - 1];
        }

        /** A call more; its room has been looked at. */
        Call newCall(int kind) {
            if (calls[callCount] == null) {
                calls[callCount] = new Call();
            }
            Call call = calls[callCount++];
            call.kind = kind;
            call.row = -1;
            call.source = ABSENT;
            call.underWay = false;
            call.isOver = false;
            return call;
        }

        void callCode(int row, int end) {
            Call call = newCall(CODE);
            call.row = row;
            call.next = 0;
            call.end = end;
        }

        int callProcedure(long procedure) {
            int length = store.rowLength[payload(procedure)];
            if (length == 0) {
                return FINE;
            }
            if (callCount == CALLS) {
                return CALLS_OVERFLOW;
            }
            callCode(payload(procedure), length);
            return FINE;
        }

        /** The topmost dictionary that has a key, -1 if none. */
        int holderOf(long key) {
            for (int i = openedCount - 1; i >= 0; i--) {
                if (dictionaries.find(opened[i], key) != ABSENT) {
                    return opened[i];
                }
            }
            return -1;
        }

        long lookUp(long key) {
            for (int i = openedCount - 1; i >= 0; i--) {
                long v = dictionaries.find(opened[i], key);
                if (v != ABSENT) {
                    return v;
                }
            }
            return ABSENT;
        }

        /** What a name to be done leads to; of the kind NOTHING, with an error, if to nothing. */
        long resolve(long name) {
            long v = name;
            for (int n = 0; n < NAME_CHAIN; n++) {
                v = lookUp(value(STANDING, payload(v)));
                if (v == ABSENT) {
                    return value(NOTHING, UNDEFINED);
                }
                if (kind(v) != DOING) {
                    return v;
                }
            }
            return value(NOTHING, LIMIT);
        }

        int nearestMark() {
            int at = height - 1;
            while (at >= 0 && kind(operands[at]) != MARK) {
                at--;
            }
            return at;
        }

        boolean hasOutputRoom(int more) {
            return outputLength + more <= OUTPUT_BYTES;
        }

        void write(byte[] row, int start, int length) {
            outputBytes = grown(outputBytes, outputLength + length, OUTPUT_BYTES);
            System.arraycopy(row, start, outputBytes, outputLength, length);
            outputLength += length;
        }
    }

    /** Cuts a tape into words, and tells the number that a row of bytes is. */
    private static final class Reader {
        static final int NO_NUMBER = 0, A_NUMBER = 1, TOO_GREAT = 2;
        private final Store store;
        private final Dictionaries dictionaries;
        private byte[] tape;
        private int length;
        private int at;
        /** The words of the program, and behind them those within braces that are open still. */
        long[] words = new long[64];
        int wordCount;
        int faultPlace;
        private int tapeWords;
        private int allWords;
        private final int[] braces = new int[BRACES];
        private int braceCount;
        private int textLength;
        private boolean isFull;
        private final int[] digits = new int[ROW_BYTES + 16];
        private int digitCount;
        /** The number that was read. */
        long number;

        Reader(Store store, Dictionaries dictionaries) {
            this.store = store;
            this.dictionaries = dictionaries;
        }

        /** Reads a whole tape: 0, or the number of its fault, whose place is kept. */
        int read(byte[] bytes, int count) {
            tape = bytes;
            length = count;
            at = 0;
            wordCount = 0;
            tapeWords = 0;
            braceCount = 0;
            isFull = false;
            if (allWords >= ALL_WORDS) {
                return fault(8, 0);
            }
            allWords++;
            skipBlanks();
            for (int n = 0; n <= TAPE_WORDS && at < length; n++) {
                int fault = tapeWords == TAPE_WORDS || allWords == ALL_WORDS ? fault(8, at)
                        : readWord();
                if (fault != FINE) {
                    return fault;
                }
                tapeWords++;
                allWords++;
                skipBlanks();
            }
            if (braceCount > 0) {
                return fault(4, length);
            }
            return isFull ? fault(9, 0) : FINE;
        }

        private int fault(int why, int where) {
            faultPlace = where;
            return why;
        }

        private static boolean isBlank(int c) {
            return c == 0 || c == 9 || c == 10 || c == 12 || c == 13 || c == 32;
        }

        private static boolean isPlain(int c) {
            switch (c) {
                case '(':
                case ')':
                case '<':
                case '>':
                case '[':
                case ']':
                case '{':
                case '}':
                case '/':
                case '%':
                    return false;
                default:
                    return !isBlank(c);
            }
        }

        private void skipBlanks() {
            boolean isComment = false;
            for (; at < length; at++) {
                int c = tape[at];
                if (c == 10 || c == 13) {
                    isComment = false;
                } else if (c == '%') {
                    isComment = true;
                } else if (!isComment && !isBlank(c)) {
                    return;
                }
            }
        }

        private int readWord() {
            int begin = at;
            boolean isTwice = at + 1 < length && tape[at + 1] == tape[at];
            switch (tape[at]) {
                case '(':
                    at++;
                    return readText();
                case '<':
                    at += isTwice ? 2 : 1;
                    return isTwice ? addName(DOING, begin) : readDigitText();
                case '>':
                    at += 2;
                    return isTwice ? addName(DOING, begin) : fault(1, begin);
                case ')':
                    return fault(1, begin);
                case '[':
                case ']':
                    at++;
                    return addName(DOING, begin);
                case '{':
                    return openBrace();
                case '}':
                    return closeBrace();
                case '/':
                    at++;
                    return readRow() ? addName(STANDING, begin + 1) : fault(6, begin);
                default:
                    return readRow() ? addRow(begin) : fault(6, begin);
            }
        }

        /** Goes behind the plain bytes that follow; false if they are too many. */
        private boolean readRow() {
            int most = Math.min(length, at + ROW_BYTES + 1);
            int from = at;
            while (at < most && isPlain(tape[at])) {
                at++;
            }
            return at - from <= ROW_BYTES;
        }

        private int addRow(int begin) {
            int found = readNumber(tape, begin, at);
            if (found == TOO_GREAT) {
                return fault(5, begin);
            }
            if (found == A_NUMBER) {
                addWord(number);
                return FINE;
            }
            return addName(DOING, begin);
        }

        private int addName(int kind, int begin) {
            int id = dictionaries.makeName(tape, begin, at - begin);
            isFull |= id < 0;
            addWord(id < 0 ? NULL : value(kind, id));
            return FINE;
        }

        private void addWord(long v) {
            words = grown(words, wordCount + 1, TAPE_WORDS);
            words[wordCount++] = v;
        }

        private int openBrace() {
            if (braceCount == BRACES) {
                return fault(7, at);
            }
            at++;
            braces[braceCount++] = wordCount;
            return FINE;
        }

        private int closeBrace() {
            if (braceCount == 0) {
                return fault(4, at);
            }
            at++;
            int begin = braces[--braceCount];
            int inside = wordCount - begin;
            wordCount = begin;
            if (!store.hasRoom(1, inside, 0)) {
                isFull = true;
                addWord(NULL);
                return FINE;
            }
            int row = store.takeArray(inside);
            System.arraycopy(words, begin, store.places, store.rowStart[row], inside);
            addWord(value(PROCEDURE, row));
            return FINE;
        }

        /** A byte more of the text that is read: it waits behind the store's bytes. */
        private void addByte(int c) {
            if (store.hasRoom(1, 0, textLength + 1)) {
                store.bytes = grown(store.bytes, store.byteCount + textLength + 1, BYTES);
                store.bytes[store.byteCount + textLength] = (byte) c;
            }
            textLength++;
        }

        private int addText() {
            if (!store.hasRoom(1, 0, textLength)) {
                isFull = true;
                addWord(NULL);
                return FINE;
            }
            addWord(value(TEXT, store.takeRow(store.byteCount, textLength)));
            store.byteCount += textLength;
            return FINE;
        }

        private int readText() {
            textLength = 0;
            int open = 1;
            for (; at < length; at++) {
                int c = tape[at];
                if (c == '\\') {
                    at++;
                    readEscape();
                    continue;
                }
                if (c == '(') {
                    open++;
                } else if (c == ')') {
                    open--;
                    if (open == 0) {
                        at++;
                        return addText();
                    }
                } else if (c == 13) {
                    skipLineFeed();
                    c = 10;
                }
                addByte(c);
            }
            return fault(2, length);
        }

        /** From a byte 13 on to the byte 10 that belongs to it. */
        private void skipLineFeed() {
            if (at + 1 < length && tape[at + 1] == 10) {
                at++;
            }
        }

        /** What stands behind a backslash; it ends on its last byte. */
        private void readEscape() {
            if (at >= length) {
                return;
            }
            int c = tape[at];
            if (c >= '0' && c <= '7') {
                int byteSaid = c - '0';
                for (int n = 0; n < 2 && at + 1 < length && tape[at + 1] >= '0' && tape[at + 1] <= '7'; n++) {
                    at++;
                    byteSaid = byteSaid * 8 + tape[at] - '0';
                }
                addByte(byteSaid);
            } else if (c == 13) {
                skipLineFeed();
            } else if (c != 10) {
                addByte(escaped(c));
            }
        }

        private static int escaped(int c) {
            switch (c) {
                case 'n':
                    return 10;
                case 'r':
                    return 13;
                case 't':
                    return 9;
                case 'b':
                    return 8;
                case 'f':
                    return 12;
                default:
                    return c;
            }
        }

        private int readDigitText() {
            textLength = 0;
            int half = -1;
            for (; at < length; at++) {
                int c = tape[at];
                if (c == '>') {
                    if (half >= 0) {
                        addByte(half * 16);
                    }
                    at++;
                    return addText();
                }
                int digit = digitOf(c, 16);
                if (digit < 0 && !isBlank(c)) {
                    return fault(3, at);
                }
                if (digit >= 0 && half >= 0) {
                    addByte(half * 16 + digit);
                    half = -1;
                } else if (digit >= 0) {
                    half = digit;
                }
            }
            return fault(2, length);
        }

        /** A digit's worth, -1 if it is none of that base. */
        private static int digitOf(int c, int base) {
            int worth = c >= '0' && c <= '9' ? c - '0'
                    : c >= 'a' && c <= 'z' ? c - 'a' + 10
                    : c >= 'A' && c <= 'Z' ? c - 'A' + 10 : -1;
            return worth < base ? worth : -1;
        }

        private static int behindDigits(byte[] row, int from, int to, int base) {
            int p = from;
            while (p < to && digitOf(row[p], base) >= 0) {
                p++;
            }
            return p;
        }

        /** Whether the bytes are a number; if so it is kept. */
        int readNumber(byte[] row, int from, int to) {
            boolean isSigned = from < to && (row[from] == '+' || row[from] == '-');
            boolean isMinus = isSigned && row[from] == '-';
            int begin = isSigned ? from + 1 : from;
            int behind = behindDigits(row, begin, to, 10);
            if (behind == to) {
                return behind > begin ? readWhole(row, begin, to, isMinus) : NO_NUMBER;
            }
            if (row[behind] == '#' && !isSigned) {
                return readBased(row, from, behind, to);
            }
            return readReal(row, begin, to, isMinus);
        }

        private int readWhole(byte[] row, int from, int to, boolean isMinus) {
            long n = 0;
            for (int p = from; p < to; p++) {
                n = Math.min(n * 10 + digitOf(row[p], 10), 1L << 40);
            }
            n = isMinus ? -n : n;
            number = whole((int) n);
            return n == (int) n ? A_NUMBER : TOO_GREAT;
        }

        /** The digits of the base end before the byte # at a place. */
        private int readBased(byte[] row, int from, int sharp, int to) {
            int base = 0;
            for (int p = from; p < sharp && sharp - from <= 2; p++) {
                base = base * 10 + digitOf(row[p], 10);
            }
            if (base < 2 || base > 36 || sharp + 1 == to
                    || behindDigits(row, sharp + 1, to, base) < to) {
                return NO_NUMBER;
            }
            long n = 0;
            for (int p = sharp + 1; p < to; p++) {
                n = Math.min(n * base + digitOf(row[p], base), 1L << 40);
            }
            number = whole((int) n);
            return n < 1L << 32 ? A_NUMBER : TOO_GREAT;
        }

        private int readReal(byte[] row, int from, int to, boolean isMinus) {
            int point = behindDigits(row, from, to, 10);
            boolean isPointed = point < to && row[point] == '.';
            int behind = isPointed ? behindDigits(row, point + 1, to, 10) : point;
            if (behind - from == (isPointed ? 1 : 0)) {
                return NO_NUMBER;
            }
            int power = 0;
            if (behind < to) {
                if (row[behind] != 'e' && row[behind] != 'E') {
                    return NO_NUMBER;
                }
                int first = behind + 1;
                boolean isSigned = first < to && (row[first] == '+' || row[first] == '-');
                boolean isDown = isSigned && row[first] == '-';
                first += isSigned ? 1 : 0;
                if (first == to || behindDigits(row, first, to, 10) < to) {
                    return NO_NUMBER;
                }
                for (int p = first; p < to; p++) {
                    power = Math.min(power * 10 + digitOf(row[p], 10), 100000);
                }
                power = isDown ? -power : power;
            }
            digitCount = 0;
            for (int p = from; p < behind; p++) {
                if (row[p] != '.') {
                    digits[digitCount++] = digitOf(row[p], 10);
                }
            }
            return makeReal(point - from + power, isMinus);
        }

        /** The real of the digits with the point behind so many of them. */
        private int makeReal(int pointBehind, boolean isMinus) {
            int zeros = 0;
            while (zeros < digitCount && digits[zeros] == 0) {
                zeros++;
            }
            int before = pointBehind - zeros;
            number = REAL;
            if (zeros == digitCount || before < -6) {
                return A_NUMBER;
            }
            if (before > 5) {
                return TOO_GREAT;
            }
            long units = 0;
            for (int p = zeros; p < zeros + before; p++) {
                units = units * 10 + (p < digitCount ? digits[p] : 0);
            }
            int from = zeros + Math.max(before, 0);
            long carried = 0;
            for (int p = digitCount - 1; p >= from; p--) {
                carried = multiplyDigit(p, carried);
            }
            // Digits of 0 between the point and the first one: the product moves on through them.
            boolean isMore = false;
            int half = from < digitCount ? digits[from] : 0;
            for (int p = from + 1; p < digitCount; p++) {
                isMore |= digits[p] != 0;
            }
            for (int p = before; p < 0; p++) {
                isMore |= half != 0;
                half = (int) (carried % 10);
                carried /= 10;
            }
            units = units * ONE + carried;
            if (half > 5 || half == 5 && (isMore || !isMinus)) {
                units++;
            }
            number = value(REAL, (int) (isMinus ? -units : units));
            return Numbers.isReal(units) ? A_NUMBER : TOO_GREAT;
        }

        private long multiplyDigit(int p, long carried) {
            long product = (long) digits[p] * ONE + carried;
            digits[p] = (int) (product % 10);
            return product / 10;
        }
    }

    /** The operators on numbers, operands, texts, arrays and dictionaries. */
    private static final class Values {
        private static final String UNWRITTEN = "--nostringval--";
        private final Stacks stacks;
        private final Store store;
        private final Dictionaries dictionaries;
        private final Reader reader;
        private final long[] turned = new long[OPERANDS];
        private final byte[] figures = new byte[16];
        /** Where the bytes that a value is written with are. */
        private byte[] spelled;
        private int spelledStart;
        private int spelledLength;

        Values(Stacks stacks, Reader reader) {
            this.stacks = stacks;
            this.store = stacks.store;
            this.dictionaries = stacks.dictionaries;
            this.reader = reader;
        }

        int reckon(int op) {
            switch (op) {
                case DO_ADD:
                case DO_SUB:
                case DO_MUL:
                    return addOrMultiply(op);
                case DO_DIV:
                    return divide();
                case DO_IDIV:
                case DO_MOD:
                    return divideWhole(op);
                case DO_SQRT:
                case DO_SIN:
                case DO_COS:
                    return takeFunction(op);
                case DO_ATAN:
                    return findAngle();
                case DO_CVI:
                case DO_CVR:
                    return convertNumber(op);
                case DO_AND:
                case DO_OR:
                case DO_XOR:
                    return combine(op);
                case DO_NOT:
                    return negate();
                case DO_BITSHIFT:
                    return shift();
                default:
                    return kind(stacks.top(0)) == WHOLE ? alterWhole(op) : alterReal(op);
            }
        }

        private int giveWhole(int taken, long n) {
            return n != (int) n ? RANGE : stacks.give(taken, whole((int) n));
        }

        private int giveReal(int taken, long units) {
            return !Numbers.isReal(units) ? RANGE : stacks.give(taken, value(REAL, (int) units));
        }

        private int addOrMultiply(int op) {
            long v = stacks.top(1);
            long w = stacks.top(0);
            boolean isWhole = kind(v) == WHOLE && kind(w) == WHOLE;
            long x = isWhole ? payload(v) : asReal(v);
            long y = isWhole ? payload(w) : asReal(w);
            if (x == UNREAL || y == UNREAL) {
                return RANGE;
            }
            if (op == DO_MUL) {
                return isWhole ? giveWhole(2, x * y) : giveReal(2, Numbers.rounded(x * y, ONE));
            }
            long sum = op == DO_ADD ? x + y : x - y;
            return isWhole ? giveWhole(2, sum) : giveReal(2, sum);
        }

        private int divide() {
            long x = asReal(stacks.top(1));
            long y = asReal(stacks.top(0));
            if (x == UNREAL || y == UNREAL) {
                return RANGE;
            }
            if (y == 0) {
                return UNDEFINED_RESULT;
            }
            return giveReal(2, Numbers.rounded((y < 0 ? -x : x) * ONE, Math.abs(y)));
        }

        private int divideWhole(int op) {
            long x = payload(stacks.top(1));
            long y = payload(stacks.top(0));
            if (y == 0) {
                return UNDEFINED_RESULT;
            }
            return giveWhole(2, op == DO_IDIV ? x / y : x % y);
        }

        private int alterWhole(int op) {
            long n = payload(stacks.top(0));
            return giveWhole(1, op == DO_NEG ? -n : op == DO_ABS ? Math.abs(n) : n);
        }

        private int alterReal(int op) {
            long u = payload(stacks.top(0));
            long up = u + ONE - 1 >> 16 << 16;
            long down = u >> 16 << 16;
            switch (op) {
                case DO_NEG:
                    return giveReal(1, -u);
                case DO_ABS:
                    return giveReal(1, Math.abs(u));
                case DO_CEILING:
                    return giveReal(1, up);
                case DO_FLOOR:
                    return giveReal(1, down);
                case DO_ROUND:
                    return giveReal(1, u + HALF >> 16 << 16);
                default:
                    return giveReal(1, u < 0 ? up : down);
            }
        }

        private int takeFunction(int op) {
            long x = asReal(stacks.top(0));
            if (x == UNREAL) {
                return RANGE;
            }
            if (op == DO_SQRT) {
                return x < 0 ? UNDEFINED_RESULT : giveReal(1, Numbers.root(x * ONE));
            }
            return giveReal(1, op == DO_SIN ? Numbers.sine(x) : Numbers.cosine(x));
        }

        private int findAngle() {
            long y = asReal(stacks.top(1));
            long x = asReal(stacks.top(0));
            if (x == UNREAL || y == UNREAL) {
                return RANGE;
            }
            return x == 0 && y == 0 ? UNDEFINED_RESULT : giveReal(2, Numbers.angle(x, y));
        }

        private int convertNumber(int op) {
            long v = stacks.top(0);
            if (kind(v) == TEXT) {
                int start = store.rowStart[payload(v)];
                int length = store.rowLength[payload(v)];
                int found = length > ROW_BYTES ? Reader.NO_NUMBER
                        : reader.readNumber(store.bytes, start, start + length);
                if (found != Reader.A_NUMBER) {
                    return found == Reader.NO_NUMBER ? TYPE_CHECK : RANGE;
                }
                v = reader.number;
            }
            if (op == DO_CVI) {
                return stacks.give(1, kind(v) == REAL ? whole(payload(v) / ONE) : v);
            }
            long x = asReal(v);
            return x == UNREAL ? RANGE : giveReal(1, x);
        }

        private static boolean isTruth(long v) {
            return kind(v) == TRUE || kind(v) == FALSE;
        }

        private int combine(int op) {
            long v = stacks.top(1);
            long w = stacks.top(0);
            if (kind(v) == WHOLE && kind(w) == WHOLE) {
                int x = payload(v);
                int y = payload(w);
                return giveWhole(2, op == DO_AND ? x & y : op == DO_OR ? x | y : x ^ y);
            }
            if (!isTruth(v) || !isTruth(w)) {
                return TYPE_CHECK;
            }
            boolean x = kind(v) == TRUE;
            boolean y = kind(w) == TRUE;
            return stacks.give(2, truth(op == DO_AND ? x && y : op == DO_OR ? x || y : x != y));
        }

        private int negate() {
            long v = stacks.top(0);
            if (kind(v) == WHOLE) {
                return giveWhole(1, ~payload(v));
            }
            return isTruth(v) ? stacks.give(1, truth(kind(v) == FALSE)) : TYPE_CHECK;
        }

        private int shift() {
            int x = payload(stacks.top(1));
            int n = payload(stacks.top(0));
            if (n >= 32 || n <= -32) {
                return giveWhole(2, 0);
            }
            return giveWhole(2, n >= 0 ? x << n : x >>> -n);
        }

        int arrange(int op) {
            switch (op) {
                case DO_POP:
                    stacks.height--;
                    return FINE;
                case DO_EXCH:
                    long v = stacks.top(1);
                    stacks.operands[stacks.height - 2] = stacks.top(0);
                    stacks.operands[stacks.height - 1] = v;
                    return FINE;
                case DO_DUP:
                    return stacks.push(stacks.top(0));
                case DO_CLEAR:
                    stacks.height = 0;
                    return FINE;
                case DO_COUNT:
                    return stacks.push(whole(stacks.height));
                case DO_INDEX:
                    return index();
                case DO_ROLL:
                    return roll();
                case DO_COPY:
                    return copy();
                case DO_CLEARTOMARK:
                case DO_COUNTTOMARK:
                    return lookToMark(op);
                default:
                    return stacks.push(MARK);
            }
        }

        private int index() {
            int n = payload(stacks.top(0));
            if (n < 0) {
                return RANGE;
            }
            return n >= stacks.height - 1 ? STACK_UNDERFLOW : stacks.give(1, stacks.top(n + 1));
        }

        private int roll() {
            int n = payload(stacks.top(1));
            int places = payload(stacks.top(0));
            if (n < 0) {
                return RANGE;
            }
            if (n > stacks.height - 2) {
                return STACK_UNDERFLOW;
            }
            stacks.height -= 2;
            if (n > 0) {
                int up = Math.floorMod(places, n);
                int start = stacks.height - n;
                System.arraycopy(stacks.operands, start, turned, up, n - up);
                System.arraycopy(stacks.operands, start + n - up, turned, 0, up);
                System.arraycopy(turned, 0, stacks.operands, start, n);
            }
            return FINE;
        }

        private int copy() {
            long to = stacks.top(0);
            if (kind(to) == WHOLE) {
                return copyOperands(payload(to));
            }
            if (!isRow(to) && kind(to) != DICTIONARY) {
                return TYPE_CHECK;
            }
            if (stacks.height < 2) {
                return STACK_UNDERFLOW;
            }
            long from = stacks.top(1);
            if (!isSameSort(from, to)) {
                return TYPE_CHECK;
            }
            if (isRow(to)) {
                return copyRow(from, to);
            }
            if (!stacks.canWork(dictionaries.keysIn(payload(from)))) {
                return LIMIT;
            }
            if (payload(from) == SYSTEM || payload(to) == SYSTEM) {
                return RANGE;
            }
            int fault = dictionaries.copyKeys(payload(from), payload(to));
            return fault != FINE ? fault : stacks.give(2, to);
        }

        private int copyOperands(int n) {
            if (n < 0) {
                return RANGE;
            }
            if (n > stacks.height - 1) {
                return STACK_UNDERFLOW;
            }
            if (!stacks.fits(n - 1)) {
                return STACK_OVERFLOW;
            }
            stacks.height--;
            System.arraycopy(stacks.operands, stacks.height - n, stacks.operands, stacks.height, n);
            stacks.height += n;
            return FINE;
        }

        private int copyRow(long from, long to) {
            int length = lengthOf(from);
            if (!stacks.canWork(length)) {
                return LIMIT;
            }
            if (length > lengthOf(to)) {
                return RANGE;
            }
            int start = startOf(to);
            int fault = setElements(from, kind(to), start);
            if (fault != FINE) {
                return fault;
            }
            return store.hasRoom(1, 0, 0)
                    ? stacks.give(2, value(kind(to), store.takeRow(start, length))) : VM;
        }

        private int lookToMark(int op) {
            int mark = stacks.nearestMark();
            if (mark < 0) {
                return UNMATCHED_MARK;
            }
            if (op == DO_COUNTTOMARK) {
                return stacks.push(whole(stacks.height - 1 - mark));
            }
            stacks.height = mark;
            return FINE;
        }

        private static boolean isRow(long v) {
            return kind(v) == TEXT || kind(v) == ARRAY || kind(v) == PROCEDURE;
        }

        private static boolean isArray(long v) {
            return kind(v) == ARRAY || kind(v) == PROCEDURE;
        }

        private static boolean isSameSort(long v, long w) {
            return kind(v) == kind(w) || isArray(v) && isArray(w);
        }

        private int startOf(long row) {
            return store.rowStart[payload(row)];
        }

        private int lengthOf(long row) {
            return store.rowLength[payload(row)];
        }

        /** Sets places from one on to all of a row, in the order in which none is lost. */
        private int setElements(long from, int kind, int to) {
            int start = startOf(from);
            int length = lengthOf(from);
            if (kind == TEXT) {
                System.arraycopy(store.bytes, start, store.bytes, to, length);
                return FINE;
            }
            boolean isBackwards = start < to;
            for (int n = 0; n < length; n++) {
                int i = isBackwards ? length - 1 - n : n;
                if (!store.setPlace(to + i, store.places[start + i])) {
                    return VM;
                }
            }
            return FINE;
        }

        int judge(int op) {
            long v = stacks.top(0);
            switch (op) {
                case DO_EQ:
                case DO_NE:
                    return compareSame(op);
                case DO_TYPE:
                    int id = typeName(kind(v));
                    return dictionaries.makeKnown(id) ? stacks.give(1, value(DOING, id)) : VM;
                case DO_XCHECK:
                    return stacks.give(1, truth(kind(v) == PROCEDURE || kind(v) == DOING
                            || kind(v) == OPERATOR));
                case DO_CVX:
                    return stacks.give(1, kind(v) == ARRAY ? value(PROCEDURE, payload(v))
                            : kind(v) == STANDING ? value(DOING, payload(v)) : v);
                case DO_CVLIT:
                    return stacks.give(1, kind(v) == PROCEDURE ? value(ARRAY, payload(v))
                            : kind(v) == DOING ? value(STANDING, payload(v)) : v);
                case DO_CVN:
                    return makeName();
                case DO_CVS:
                    return writeToText();
                case DO_WRITE:
                case DO_PRINT:
                    return writeOut(op);
                default:
                    return compareSizes(op);
            }
        }

        /** Work is counted for two texts alone. */
        private boolean canCompare(long v, long w) {
            return kind(v) != TEXT || kind(w) != TEXT
                    || stacks.canWork((long) lengthOf(v) + lengthOf(w));
        }

        private int compareSame(int op) {
            long v = stacks.top(1);
            long w = stacks.top(0);
            if (!canCompare(v, w)) {
                return LIMIT;
            }
            return stacks.give(2, truth(isSame(v, w) == (op == DO_EQ)));
        }

        private boolean isSame(long v, long w) {
            if (isNumber(v) && isNumber(w)) {
                return units(v) == units(w);
            }
            if (isArray(v) && isArray(w)) {
                return payload(v) == payload(w);
            }
            if (isName(v) && isName(w)) {
                return payload(v) == payload(w);
            }
            if (kind(v) == TEXT && kind(w) == TEXT) {
                return compareTexts(v, w) == 0;
            }
            if (kind(v) == TEXT && isName(w)) {
                return isNamed(w, v);
            }
            if (kind(w) == TEXT && isName(v)) {
                return isNamed(v, w);
            }
            return v == w;
        }

        private static boolean isName(long v) {
            return kind(v) == STANDING || kind(v) == DOING;
        }

        private boolean isNamed(long name, long text) {
            return dictionaries.nameLength(payload(name)) == lengthOf(text)
                    && dictionaries.isNameAt(payload(name), store.bytes, startOf(text));
        }

        /** A number in units, a whole one too, whether or not it could be a real. */
        private static long units(long v) {
            return kind(v) == WHOLE ? (long) payload(v) * ONE : payload(v);
        }

        private int compareTexts(long v, long w) {
            int shared = Math.min(lengthOf(v), lengthOf(w));
            for (int i = 0; i < shared; i++) {
                int x = store.bytes[startOf(v) + i] & 255;
                int y = store.bytes[startOf(w) + i] & 255;
                if (x != y) {
                    return x - y;
                }
            }
            return lengthOf(v) - lengthOf(w);
        }

        private int compareSizes(int op) {
            long v = stacks.top(1);
            long w = stacks.top(0);
            long more;
            if (isNumber(v) && isNumber(w)) {
                more = units(v) - units(w);
            } else if (kind(v) == TEXT && kind(w) == TEXT) {
                if (!canCompare(v, w)) {
                    return LIMIT;
                }
                more = compareTexts(v, w);
            } else {
                return TYPE_CHECK;
            }
            return stacks.give(2, truth(op == DO_GT ? more > 0 : op == DO_GE ? more >= 0
                    : op == DO_LT ? more < 0 : more <= 0));
        }

        private static int typeName(int kind) {
            switch (kind) {
                case NULL:
                    return NULL_TYPE;
                case FALSE:
                case TRUE:
                    return TRUTH_TYPE;
                case WHOLE:
                    return WHOLE_TYPE;
                case REAL:
                    return REAL_TYPE;
                case MARK:
                    return MARK_TYPE;
                case STANDING:
                case DOING:
                    return NAME_TYPE;
                case TEXT:
                    return TEXT_TYPE;
                case ARRAY:
                case PROCEDURE:
                    return ARRAY_TYPE;
                case DICTIONARY:
                    return DICTIONARY_TYPE;
                case OPERATOR:
                    return OPERATOR_TYPE;
                default:
                    return SAVE_TYPE;
            }
        }

        private int makeName() {
            long text = stacks.top(0);
            if (lengthOf(text) > ROW_BYTES) {
                return RANGE;
            }
            int id = dictionaries.makeName(store.bytes, startOf(text), lengthOf(text));
            return id < 0 ? VM : stacks.give(1, value(STANDING, id));
        }

        private int writeToText() {
            long text = stacks.top(0);
            spell(stacks.top(1));
            if (!stacks.canWork(spelledLength)) {
                return LIMIT;
            }
            if (spelledLength > lengthOf(text)) {
                return RANGE;
            }
            if (!store.hasRoom(1, 0, 0)) {
                return VM;
            }
            System.arraycopy(spelled, spelledStart, store.bytes, startOf(text), spelledLength);
            return stacks.give(2, value(TEXT, store.takeRow(startOf(text), spelledLength)));
        }

        private int writeOut(int op) {
            spell(stacks.top(0));
            if (!stacks.canWork(spelledLength)) {
                return LIMIT;
            }
            if (!stacks.hasOutputRoom(spelledLength + (op == DO_WRITE ? 1 : 0))) {
                return LIMIT;
            }
            stacks.write(spelled, spelledStart, spelledLength);
            if (op == DO_WRITE) {
                figures[0] = 10;
                stacks.write(figures, 0, 1);
            }
            stacks.height--;
            return FINE;
        }

        private void spell(long v) {
            spelled = figures;
            spelledStart = 0;
            switch (kind(v)) {
                case WHOLE:
                    spellFigures(Math.abs((long) payload(v)), 0, payload(v) < 0);
                    break;
                case REAL:
                    long size = Numbers.rounded(Math.abs((long) payload(v)) * 100000, ONE);
                    spellFigures(size, 5, payload(v) < 0 && size != 0);
                    break;
                case TRUE:
                    spellName(TRUE_NAME);
                    break;
                case FALSE:
                    spellName(FALSE_NAME);
                    break;
                case STANDING:
                case DOING:
                case OPERATOR:
                    spellName(payload(v));
                    break;
                case TEXT:
                    spelled = store.bytes;
                    spelledStart = startOf(v);
                    spelledLength = lengthOf(v);
                    break;
                default:
                    spelledLength = UNWRITTEN.length();
                    for (int i = 0; i < spelledLength; i++) {
                        figures[i] = (byte) UNWRITTEN.charAt(i);
                    }
                    break;
            }
        }

        private void spellName(int id) {
            spelled = dictionaries.nameBytes;
            spelledStart = dictionaries.nameStart[id];
            spelledLength = dictionaries.nameLength(id);
        }

        /** Writes digits from the last one on, with a point before so many of them if any. */
        private void spellFigures(long size, int behindPoint, boolean isMinus) {
            int at = figures.length;
            long left = size;
            for (int n = 0; n < 14 && (left > 0 || n <= behindPoint); n++) {
                if (n == behindPoint && n > 0) {
                    figures[--at] = '.';
                }
                figures[--at] = (byte) ('0' + left % 10);
                left /= 10;
            }
            if (isMinus) {
                figures[--at] = '-';
            }
            spelledStart = at;
            spelledLength = figures.length - at;
        }

        int workOnRows(int op) {
            switch (op) {
                case DO_ARRAY:
                case DO_STRING:
                    return makeRow(op);
                case DO_CLOSE_ARRAY:
                    return closeArray();
                case DO_LENGTH:
                    return findLength();
                case DO_GET:
                    return get();
                case DO_PUT:
                    return put();
                case DO_GETINTERVAL:
                    return getInterval();
                case DO_PUTINTERVAL:
                    return putInterval();
                case DO_ALOAD:
                    return loadArray();
                case DO_ASTORE:
                    return storeArray();
                case DO_SEARCH:
                    return search();
                default:
                    return searchBeginning();
            }
        }

        private int makeRow(int op) {
            int n = payload(stacks.top(0));
            if (!stacks.canWork(Math.max(n, 0))) {
                return LIMIT;
            }
            if (n < 0 || n > 65535) {
                return RANGE;
            }
            boolean isText = op == DO_STRING;
            if (!store.hasRoom(1, isText ? 0 : n, isText ? n : 0)) {
                return VM;
            }
            return stacks.give(1, isText ? value(TEXT, store.takeText(n))
                    : value(ARRAY, store.takeArray(n)));
        }

        private int closeArray() {
            int mark = stacks.nearestMark();
            if (mark < 0) {
                return UNMATCHED_MARK;
            }
            int n = stacks.height - 1 - mark;
            if (!stacks.canWork(n)) {
                return LIMIT;
            }
            if (!store.hasRoom(1, n, 0)) {
                return VM;
            }
            int row = store.takeArray(n);
            System.arraycopy(stacks.operands, mark + 1, store.places, store.rowStart[row], n);
            return stacks.give(n + 1, value(ARRAY, row));
        }

        private int findLength() {
            long v = stacks.top(0);
            if (kind(v) == DICTIONARY) {
                int found = dictionaries.keysIn(payload(v));
                return stacks.canWork(found) ? stacks.give(1, whole(found)) : LIMIT;
            }
            return stacks.give(1, whole(isRow(v) ? lengthOf(v)
                    : dictionaries.nameLength(payload(v))));
        }

        private int get() {
            long from = stacks.top(1);
            long at = stacks.top(0);
            if (kind(from) == DICTIONARY) {
                if (kind(at) == NULL) {
                    return TYPE_CHECK;
                }
                if (dictionaries.isTooLong(at)) {
                    return RANGE;
                }
                long v = dictionaries.find(payload(from), dictionaries.keyFor(at));
                return v == ABSENT ? UNDEFINED : stacks.give(2, v);
            }
            if (kind(at) != WHOLE) {
                return TYPE_CHECK;
            }
            int i = payload(at);
            return i < 0 || i >= lengthOf(from) ? RANGE : stacks.give(2, store.element(from, i));
        }

        private int put() {
            long to = stacks.top(2);
            long at = stacks.top(1);
            long v = stacks.top(0);
            int fault;
            if (kind(to) != DICTIONARY) {
                fault = putElement(to, at, v);
            } else if (kind(at) == NULL) {
                fault = TYPE_CHECK;
            } else {
                fault = dictionaries.isTooLong(at) ? RANGE
                        : dictionaries.define(payload(to), at, v);
            }
            if (fault == FINE) {
                stacks.height -= 3;
            }
            return fault;
        }

        private int putElement(long row, long at, long v) {
            boolean isText = kind(row) == TEXT;
            if (kind(at) != WHOLE || isText && kind(v) != WHOLE) {
                return TYPE_CHECK;
            }
            int i = payload(at);
            if (i < 0 || i >= lengthOf(row) || isText && (payload(v) < 0 || payload(v) > 255)) {
                return RANGE;
            }
            if (!isText) {
                return store.setPlace(startOf(row) + i, v) ? FINE : VM;
            }
            store.bytes[startOf(row) + i] = (byte) payload(v);
            return FINE;
        }

        private int getInterval() {
            long row = stacks.top(2);
            int from = payload(stacks.top(1));
            int n = payload(stacks.top(0));
            if (from < 0 || n < 0 || (long) from + n > lengthOf(row)) {
                return RANGE;
            }
            if (!store.hasRoom(1, 0, 0)) {
                return VM;
            }
            return stacks.give(3, part(row, from, n));
        }

        /** A new part of a row, whose room has been looked at. */
        private long part(long row, int from, int n) {
            return value(kind(row), store.takeRow(startOf(row) + from, n));
        }

        private int putInterval() {
            long to = stacks.top(2);
            int at = payload(stacks.top(1));
            long from = stacks.top(0);
            if (!isSameSort(to, from)) {
                return TYPE_CHECK;
            }
            if (!stacks.canWork(lengthOf(from))) {
                return LIMIT;
            }
            if (at < 0 || (long) at + lengthOf(from) > lengthOf(to)) {
                return RANGE;
            }
            int fault = setElements(from, kind(to), startOf(to) + at);
            if (fault == FINE) {
                stacks.height -= 3;
            }
            return fault;
        }

        private int loadArray() {
            long row = stacks.top(0);
            int n = lengthOf(row);
            if (!stacks.canWork(n)) {
                return LIMIT;
            }
            if (!stacks.fits(n)) {
                return STACK_OVERFLOW;
            }
            System.arraycopy(store.places, startOf(row), stacks.operands, stacks.height - 1, n);
            stacks.height += n;
            stacks.operands[stacks.height - 1] = row;
            return FINE;
        }

        private int storeArray() {
            long row = stacks.top(0);
            int n = lengthOf(row);
            if (!stacks.canWork(n)) {
                return LIMIT;
            }
            if (n > stacks.height - 1) {
                return STACK_UNDERFLOW;
            }
            int from = stacks.height - 1 - n;
            for (int i = 0; i < n; i++) {
                if (!store.setPlace(startOf(row) + i, stacks.operands[from + i])) {
                    return VM;
                }
            }
            return stacks.give(n + 1, row);
        }

        private boolean isAt(long text, int from, long sought) {
            if (from + lengthOf(sought) > lengthOf(text)) {
                return false;
            }
            for (int i = 0; i < lengthOf(sought); i++) {
                if (store.bytes[startOf(text) + from + i] != store.bytes[startOf(sought) + i]) {
                    return false;
                }
            }
            return true;
        }

        private int search() {
            long text = stacks.top(1);
            long sought = stacks.top(0);
            if (!stacks.canWork((long) lengthOf(text) * lengthOf(sought))) {
                return LIMIT;
            }
            int last = lengthOf(text) - lengthOf(sought);
            int from = 0;
            while (from <= last && !isAt(text, from, sought)) {
                from++;
            }
            if (from > last) {
                return stacks.give(1, FALSE);
            }
            if (!store.hasRoom(3, 0, 0)) {
                return VM;
            }
            if (!stacks.fits(2)) {
                return STACK_OVERFLOW;
            }
            int behind = from + lengthOf(sought);
            stacks.height -= 2;
            stacks.push(part(text, behind, lengthOf(text) - behind));
            stacks.push(part(text, from, lengthOf(sought)));
            stacks.push(part(text, 0, from));
            return stacks.push(TRUE);
        }

        private int searchBeginning() {
            long text = stacks.top(1);
            long sought = stacks.top(0);
            if (!stacks.canWork((long) lengthOf(text) * lengthOf(sought))) {
                return LIMIT;
            }
            if (!isAt(text, 0, sought)) {
                return stacks.give(1, FALSE);
            }
            if (!store.hasRoom(2, 0, 0)) {
                return VM;
            }
            if (!stacks.fits(1)) {
                return STACK_OVERFLOW;
            }
            int behind = lengthOf(sought);
            stacks.height -= 2;
            stacks.push(part(text, behind, lengthOf(text) - behind));
            stacks.push(part(text, 0, behind));
            return stacks.push(TRUE);
        }

        int workOnDictionaries(int op) {
            switch (op) {
                case DO_DICT:
                    return makeDictionary();
                case DO_BEGIN:
                    return open();
                case DO_END:
                    return close();
                case DO_DEF:
                case DO_STORE:
                    return define(op);
                case DO_LOAD:
                    return find();
                case DO_KNOWN:
                    return findOut();
                case DO_UNDEF:
                    return forget();
                case DO_WHERE:
                    return findHolder();
                case DO_CURRENTDICT:
                    return stacks.push(value(DICTIONARY, stacks.opened[stacks.openedCount - 1]));
                case DO_COUNTDICTSTACK:
                    return stacks.push(whole(stacks.openedCount));
                default:
                    return closeDictionary();
            }
        }

        private int makeDictionary() {
            if (payload(stacks.top(0)) < 0) {
                return RANGE;
            }
            if (!dictionaries.hasRoom()) {
                return VM;
            }
            return stacks.give(1, value(DICTIONARY, dictionaries.takeDictionary()));
        }

        private int open() {
            if (stacks.openedCount == OPENED) {
                return DICTIONARIES_OVERFLOW;
            }
            stacks.opened[stacks.openedCount++] = payload(stacks.top(0));
            stacks.height--;
            return FINE;
        }

        private int close() {
            if (stacks.openedCount == 2) {
                return DICTIONARIES_UNDERFLOW;
            }
            stacks.openedCount--;
            return FINE;
        }

        private int define(int op) {
            long key = stacks.top(1);
            if (dictionaries.isTooLong(key)) {
                return RANGE;
            }
            int holder = op == DO_STORE ? stacks.holderOf(dictionaries.keyFor(key)) : -1;
            int dictionary = holder < 0 ? stacks.opened[stacks.openedCount - 1] : holder;
            int fault = dictionaries.define(dictionary, key, stacks.top(0));
            if (fault == FINE) {
                stacks.height -= 2;
            }
            return fault;
        }

        private int find() {
            if (dictionaries.isTooLong(stacks.top(0))) {
                return RANGE;
            }
            long v = stacks.lookUp(dictionaries.keyFor(stacks.top(0)));
            return v == ABSENT ? UNDEFINED : stacks.give(1, v);
        }

        private int findOut() {
            if (dictionaries.isTooLong(stacks.top(0))) {
                return RANGE;
            }
            long key = dictionaries.keyFor(stacks.top(0));
            return stacks.give(2, truth(dictionaries.find(payload(stacks.top(1)), key) != ABSENT));
        }

        private int forget() {
            int dictionary = payload(stacks.top(1));
            if (dictionary == SYSTEM || dictionaries.isTooLong(stacks.top(0))) {
                return RANGE;
            }
            int fault = dictionaries.remove(dictionary, dictionaries.keyFor(stacks.top(0)));
            if (fault == FINE) {
                stacks.height -= 2;
            }
            return fault;
        }

        private int findHolder() {
            if (dictionaries.isTooLong(stacks.top(0))) {
                return RANGE;
            }
            int holder = stacks.holderOf(dictionaries.keyFor(stacks.top(0)));
            if (holder < 0) {
                return stacks.give(1, FALSE);
            }
            if (!stacks.fits(1)) {
                return STACK_OVERFLOW;
            }
            stacks.give(1, value(DICTIONARY, holder));
            return stacks.push(TRUE);
        }

        private int closeDictionary() {
            int mark = stacks.nearestMark();
            if (mark < 0) {
                return UNMATCHED_MARK;
            }
            int n = stacks.height - 1 - mark;
            if (!stacks.canWork(n)) {
                return LIMIT;
            }
            if (n % 2 != 0) {
                return RANGE;
            }
            for (int i = mark + 1; i < stacks.height; i += 2) {
                long key = stacks.operands[i];
                if (kind(key) == NULL || dictionaries.isTooLong(key)) {
                    return kind(key) == NULL ? TYPE_CHECK : RANGE;
                }
            }
            if (!dictionaries.hasRoom()) {
                return VM;
            }
            int made = dictionaries.takeDictionary();
            for (int i = mark + 1; i < stacks.height; i += 2) {
                int fault = dictionaries.define(made, stacks.operands[i], stacks.operands[i + 1]);
                if (fault != FINE) {
                    return fault;
                }
            }
            return stacks.give(n + 1, value(DICTIONARY, made));
        }
    }

    /** A row of subpaths: parts, and one point of places for each end and control point. */
    private static final class Path {
        private static final int HALVINGS = 10;
        byte[] parts = new byte[16];
        int partCount;
        int[] xs = new int[32];
        int[] ys = new int[32];
        int pointCount;
        private int firstPoint;

        void clear() {
            partCount = 0;
            pointCount = 0;
            firstPoint = 0;
        }

        void copyFrom(Path other) {
            parts = grown(parts, other.partCount, PATH_PARTS + 2);
            xs = grown(xs, other.pointCount, 3 * PATH_PARTS + 4);
            ys = grown(ys, other.pointCount, 3 * PATH_PARTS + 4);
            System.arraycopy(other.parts, 0, parts, 0, other.partCount);
            System.arraycopy(other.xs, 0, xs, 0, other.pointCount);
            System.arraycopy(other.ys, 0, ys, 0, other.pointCount);
            partCount = other.partCount;
            pointCount = other.pointCount;
            firstPoint = other.firstPoint;
        }

        /** Room for so many parts and points more. */
        private void reserve(int moreParts, int morePoints) {
            parts = grown(parts, partCount + moreParts, PATH_PARTS + 2);
            xs = grown(xs, pointCount + morePoints, 3 * PATH_PARTS + 4);
            ys = grown(ys, pointCount + morePoints, 3 * PATH_PARTS + 4);
        }

        boolean isClosed() {
            return partCount > 0 && parts[partCount - 1] == CLOSING;
        }

        int pointX() {
            return isClosed() ? xs[firstPoint] : xs[pointCount - 1];
        }

        int pointY() {
            return isClosed() ? ys[firstPoint] : ys[pointCount - 1];
        }

        private void addPoint(int x, int y) {
            xs[pointCount] = x;
            ys[pointCount] = y;
            pointCount++;
        }

        int moveTo(int x, int y) {
            if (partCount > 0 && parts[partCount - 1] == BEGINNING) {
                pointCount--;
            } else if (partCount == PATH_PARTS) {
                return LIMIT;
            } else {
                reserve(1, 1);
                parts[partCount++] = BEGINNING;
            }
            firstPoint = pointCount;
            addPoint(x, y);
            return FINE;
        }

        /** Whether there is room for parts behind THE POINT, with a beginning if that is wanted. */
        boolean canGoOn(int more) {
            return partCount + more + (isClosed() ? 1 : 0) <= PATH_PARTS;
        }

        /** A part behind THE POINT; behind closing a subpath begins there first. */
        private void goOn(int part) {
            if (isClosed()) {
                parts[partCount++] = BEGINNING;
                addPoint(xs[firstPoint], ys[firstPoint]);
                firstPoint = pointCount - 1;
            }
            parts[partCount++] = (byte) part;
        }

        int lineTo(int x, int y) {
            if (!canGoOn(1)) {
                return LIMIT;
            }
            reserve(2, 2);
            goOn(LINE);
            addPoint(x, y);
            return FINE;
        }

        /** A curve by three points in a row each for x and y, from a place in them on. */
        int curveTo(int[] curveXs, int[] curveYs, int from) {
            if (!canGoOn(1)) {
                return LIMIT;
            }
            reserve(2, 4);
            goOn(CURVE);
            for (int i = from; i < from + 3; i++) {
                addPoint(curveXs[i], curveYs[i]);
            }
            return FINE;
        }

        int close() {
            if (partCount == 0 || isClosed()) {
                return FINE;
            }
            if (partCount == PATH_PARTS) {
                return LIMIT;
            }
            reserve(1, 0);
            parts[partCount++] = CLOSING;
            return FINE;
        }

        /** Becomes another path with all curves as lines; false if there are too many parts. */
        boolean flattenFrom(Path other, int[] halves, int bound) {
            clear();
            reserve(PATH_PARTS, PATH_PARTS);
            int point = 0;
            for (int i = 0; i < other.partCount; i++) {
                int part = other.parts[i];
                if (part == CURVE) {
                    if (!addFlattened(other, point - 1, halves, bound)) {
                        return false;
                    }
                    point += 3;
                    continue;
                }
                if (partCount == PATH_PARTS) {
                    return false;
                }
                if (part == BEGINNING) {
                    firstPoint = pointCount;
                }
                parts[partCount++] = (byte) part;
                if (part != CLOSING) {
                    xs[pointCount] = other.xs[point];
                    ys[pointCount] = other.ys[point];
                    pointCount++;
                    point++;
                }
            }
            return true;
        }

        /** The lines of one curve; what is halved waits in a pile, the first half on top. */
        private boolean addFlattened(Path other, int from, int[] halves, int bound) {
            for (int i = 0; i < 4; i++) {
                halves[i] = other.xs[from + i];
                halves[4 + i] = other.ys[from + i];
            }
            halves[8] = 0;
            int waiting = 1;
            for (int n = 0; n < 4 << HALVINGS && waiting > 0; n++) {
                int at = (waiting - 1) * 9;
                if (halves[at + 8] < HALVINGS
                        && !(isFlat(halves, at, bound) && isFlat(halves, at + 4, bound))) {
                    halves[at + 8]++;
                    halves[at + 17] = halves[at + 8];
                    halve(halves, at);
                    halve(halves, at + 4);
                    waiting++;
                    continue;
                }
                if (partCount == PATH_PARTS) {
                    return false;
                }
                parts[partCount++] = LINE;
                xs[pointCount] = halves[at + 3];
                ys[pointCount] = halves[at + 7];
                pointCount++;
                waiting--;
            }
            return true;
        }

        private static boolean isFlat(int[] row, int at, int bound) {
            long a = row[at];
            long b = row[at + 1];
            long c = row[at + 2];
            long d = row[at + 3];
            return 3 * Math.abs(a - 2 * b + c) <= 2L * bound
                    && 3 * Math.abs(b - 2 * c + d) <= 2L * bound;
        }

        /** The second half stays in its place, the first one comes into the next place of the pile. */
        private static void halve(int[] row, int at) {
            int e = row[at] + row[at + 1] >> 1;
            int f = row[at + 1] + row[at + 2] >> 1;
            int g = row[at + 2] + row[at + 3] >> 1;
            int h = e + f >> 1;
            int i = f + g >> 1;
            int j = h + i >> 1;
            row[at + 9] = row[at];
            row[at + 10] = e;
            row[at + 11] = h;
            row[at + 12] = j;
            row[at] = j;
            row[at + 1] = i;
            row[at + 2] = g;
        }

        /** Each subpath the other way: its points, and its parts between beginning and closing. */
        void reverse() {
            int point = 0;
            int i = 0;
            for (int n = 0; n < PATH_PARTS && i < partCount; n++) {
                int firstOfParts = i + 1;
                int firstOfPoints = point;
                point++;
                i++;
                while (i < partCount && (parts[i] == LINE || parts[i] == CURVE)) {
                    point += parts[i] == CURVE ? 3 : 1;
                    i++;
                }
                turnParts(firstOfParts, i - 1);
                turnPoints(firstOfPoints, point - 1);
                if (i < partCount && parts[i] == CLOSING) {
                    i++;
                }
            }
        }

        private void turnParts(int from, int to) {
            int low = from;
            for (int high = to; low < high; high--) {
                byte part = parts[low];
                parts[low] = parts[high];
                parts[high] = part;
                low++;
            }
        }

        private void turnPoints(int from, int to) {
            int low = from;
            for (int high = to; low < high; high--) {
                int x = xs[low];
                int y = ys[low];
                xs[low] = xs[high];
                ys[low] = ys[high];
                xs[high] = x;
                ys[high] = y;
                low++;
            }
        }
    }

    /** THE GRAPHICS, or a copy of them on the pile. */
    private static final class Graphics {
        final int[] matrix = new int[6];
        final Path path = new Path();
        /** A bit for each pixel of the clip, each row beginning with a new element. */
        final long[] clip;
        int clipRuns;
        int shade;
        int width;
        int cap;
        int join;
        int mitre;
        final int[] dashes = new int[8];
        int dashCount;
        int dashOffset;
        int flatness;
        int font;
        /** The number of the save that has put this copy on the pile, 0 if it was gsave. */
        int saveNumber;

        Graphics(int clipLength) {
            clip = new long[clipLength];
        }

        void renew(int rows) {
            Numbers.setMatrix(matrix, ONE, 0, 0, -ONE);
            matrix[5] = rows * ONE;
            path.clear();
            shade = 0;
            width = ONE;
            cap = 0;
            join = 0;
            mitre = 10 * ONE;
            dashCount = 0;
            dashOffset = 0;
            flatness = ONE / 4;
            font = -1;
        }

        void copyFrom(Graphics other) {
            System.arraycopy(other.matrix, 0, matrix, 0, 6);
            path.copyFrom(other.path);
            System.arraycopy(other.clip, 0, clip, 0, clip.length);
            clipRuns = other.clipRuns;
            shade = other.shade;
            width = other.width;
            cap = other.cap;
            join = other.join;
            mitre = other.mitre;
            System.arraycopy(other.dashes, 0, dashes, 0, 8);
            dashCount = other.dashCount;
            dashOffset = other.dashOffset;
            flatness = other.flatness;
            font = other.font;
        }
    }

    /** The page, and the pixels whose centres are inside closed lines. */
    private static final class Painter {
        private final int columns;
        private final int rows;
        final int wide;
        final byte[] page;
        /** By how much the winding number is more from a pixel on than left of it. */
        private final int[] turns;
        private int firstRow;
        private int lastRow;
        private int firstColumn;
        private int lastColumn;
        final long[] inside;

        Painter(int columns, int rows) {
            this.columns = columns;
            this.rows = rows;
            wide = columns + 63 >> 6;
            page = new byte[columns * rows];
            turns = new int[columns * rows];
            inside = new long[wide * rows];
        }

        void erase() {
            Arrays.fill(page, (byte) 255);
        }

        void setAll(long[] clip) {
            for (int i = 0; i < clip.length; i++) {
                int left = columns - i % wide * 64;
                clip[i] = left >= 64 ? -1L : (1L << left) - 1;
            }
        }

        int pixelsIn(long[] clip) {
            int found = 0;
            for (int i = 0; i < clip.length; i++) {
                found += Long.bitCount(clip[i]);
            }
            return found;
        }

        int runsIn(long[] clip) {
            int found = 0;
            for (int i = 0; i < clip.length; i++) {
                long before = clip[i] << 1;
                if (i % wide > 0) {
                    before |= clip[i - 1] >>> 63;
                }
                found += Long.bitCount(clip[i] & ~before);
            }
            return found;
        }

        void beginOutline() {
            firstRow = rows;
            lastRow = -1;
            firstColumn = columns;
            lastColumn = -1;
        }

        /** Each subpath of a path without curves is a closed line. */
        void addOutline(Path flat) {
            int first = 0;
            int point = 0;
            for (int i = 0; i < flat.partCount; i++) {
                if (flat.parts[i] == BEGINNING) {
                    if (point > 0) {
                        addEdge(flat.xs[point - 1], flat.ys[point - 1], flat.xs[first], flat.ys[first]);
                    }
                    first = point;
                    point++;
                } else if (flat.parts[i] == LINE) {
                    addEdge(flat.xs[point - 1], flat.ys[point - 1], flat.xs[point], flat.ys[point]);
                    point++;
                }
            }
            if (point > 0) {
                addEdge(flat.xs[point - 1], flat.ys[point - 1], flat.xs[first], flat.ys[first]);
            }
        }

        /** An edge from (a, b) to (c, d): it turns in each row whose centres it passes. */
        void addEdge(int a, int b, int c, int d) {
            long x = b < d ? a : c;
            long y = Math.min(b, d);
            long way = b < d ? (long) c - a : (long) a - c;
            long height = Math.max(b, d) - y;
            int from = Math.max(0, firstCentre(y));
            int behind = Math.min(rows, firstCentre(y + height));
            for (int row = from; row < behind; row++) {
                long down = (long) row * ONE + HALF - y;
                // The least whole place that is not left of the edge: a centre is whole as well.
                int column = Math.max(0, firstCentre(x - Numbers.floored(-way * down, height)));
                if (column < columns) {
                    turns[row * columns + column] += b < d ? 1 : -1;
                    firstRow = Math.min(firstRow, row);
                    lastRow = Math.max(lastRow, row);
                    firstColumn = Math.min(firstColumn, column);
                    lastColumn = Math.max(lastColumn, column);
                }
            }
        }

        /** The first column or row whose centre is not before a place. */
        private static int firstCentre(long place) {
            return (int) (place - HALF + ONE - 1 >> 16);
        }

        /** Finds the pixels of a clip inside the outline, in the rows that it has touched. */
        void findInside(int rule, long[] clip) {
            for (int row = firstRow; row <= lastRow; row++) {
                int at = row * wide;
                Arrays.fill(inside, at, at + wide, 0);
                int winding = 0;
                for (int c = firstColumn; c < columns; c++) {
                    int pixel = row * columns + c;
                    winding += turns[pixel];
                    turns[pixel] = 0;
                    if (winding == 0 && c >= lastColumn) {
                        break;
                    }
                    if (rule == 0 ? winding != 0 : (winding & 1) != 0) {
                        inside[at + (c >> 6)] |= 1L << c;
                    }
                }
                for (int k = at; k < at + wide; k++) {
                    inside[k] &= clip[k];
                }
            }
        }

        /** No pixel of the rows that the outline has not touched is inside. */
        void clearUntouched() {
            for (int row = 0; row < rows; row++) {
                if (row < firstRow || row > lastRow) {
                    Arrays.fill(inside, row * wide, row * wide + wide, 0);
                }
            }
        }

        void paintInside(int gray) {
            for (int row = firstRow; row <= lastRow; row++) {
                for (int c = firstColumn; c < columns; c++) {
                    if ((inside[row * wide + (c >> 6)] >>> c & 1) != 0) {
                        page[row * columns + c] = (byte) gray;
                    }
                }
            }
        }
    }

    /** Makes the pieces that lines are stroked with. */
    private static final class Stroker {
        private long half;
        private long bend;
        private boolean isCapped;
        private boolean isMitred;
        private final long[] dashes = new long[8];
        private int dashCount;
        private int firstDash;
        private boolean firstIsGap;
        private long firstLeft;
        private int dashesTaken;
        private int[] xs = new int[16];
        private int[] ys = new int[16];
        private int rowPoints;
        private boolean isRowClosed;
        private int[] dashXs = new int[16];
        private int[] dashYs = new int[16];
        private int dashPoints;
        // Of each segment of a run: how far it goes, its ACROSS, and its ALONG downwards.
        private int[] segments = new int[80];
        private final long[] piece = new long[8];
        /** Four corners for each piece; a corner of three is there twice. */
        int[] corners = new int[64];
        int pieceCount;

        /** Looks at half width and dashes; false when they are beyond the limits. */
        boolean prepare(Graphics graphics, int points) {
            int[] m = graphics.matrix;
            long scale = Numbers.root(Math.abs((long) m[0] * m[3] - (long) m[1] * m[2]));
            half = Math.max(1, Numbers.rounded(graphics.width * scale, 2 * ONE));
            bend = (1L << 49) / ((long) graphics.mitre * graphics.mitre) - ONE;
            isCapped = graphics.cap == 2;
            isMitred = graphics.join == 0;
            pieceCount = 0;
            dashesTaken = 0;
            xs = grown(xs, points + 2, STROKE_POINTS + 2);
            ys = grown(ys, points + 2, STROKE_POINTS + 2);
            dashXs = grown(dashXs, points + 2, STROKE_POINTS + 2);
            dashYs = grown(dashYs, points + 2, STROKE_POINTS + 2);
            segments = grown(segments, 5 * (points + 2), 5 * (STROKE_POINTS + 2));
            return half <= HALF_WIDTH && prepareDashes(graphics, scale);
        }

        private boolean prepareDashes(Graphics graphics, long scale) {
            dashCount = graphics.dashCount;
            long sum = 0;
            for (int i = 0; i < dashCount; i++) {
                dashes[i] = Numbers.rounded(graphics.dashes[i] * scale, ONE);
                if (dashes[i] > PLACE) {
                    return false;
                }
                sum += dashes[i];
            }
            long offset = Numbers.rounded(graphics.dashOffset * scale, ONE);
            if (dashCount > 0 && offset > PLACE) {
                return false;
            }
            if (sum == 0) {
                dashCount = 0;
                return true;
            }
            walkOffset(offset % (2 * sum));
            return true;
        }

        /** Twice all dashes lead to the same dash again, so less than that is left to be walked. */
        private void walkOffset(long offset) {
            firstDash = 0;
            firstIsGap = false;
            long left = offset;
            for (int n = 0; n < 24 && dashes[firstDash] <= left; n++) {
                left -= dashes[firstDash];
                firstDash = (firstDash + 1) % dashCount;
                firstIsGap = !firstIsGap;
            }
            firstLeft = dashes[firstDash] - left;
        }

        boolean isDashed() {
            return dashCount > 0;
        }

        /** Takes the points of the subpath of a path without curves whose beginning is a part. */
        void takeRow(Path flat, int part, int point) {
            int n = 0;
            int i = part;
            int p = point;
            isRowClosed = false;
            while (i < flat.partCount && (i == part || flat.parts[i] != BEGINNING)) {
                if (flat.parts[i] == CLOSING) {
                    isRowClosed = true;
                } else {
                    if (n == 0 || flat.xs[p] != xs[n - 1] || flat.ys[p] != ys[n - 1]) {
                        xs[n] = flat.xs[p];
                        ys[n] = flat.ys[p];
                        n++;
                    }
                    p++;
                }
                i++;
            }
            while (isRowClosed && n > 1 && xs[n - 1] == xs[0] && ys[n - 1] == ys[0]) {
                n--;
            }
            rowPoints = n;
        }

        boolean strokeWhole() {
            return makePieces(xs, ys, rowPoints, isRowClosed);
        }

        /** Strokes the row dash by dash; false when that is beyond the limits. */
        boolean walk() {
            int dash = firstDash;
            boolean isGap = firstIsGap;
            long left = firstLeft;
            dashesTaken++;
            beginDash(xs[0], ys[0]);
            int n = rowPoints;
            int segmentCount = n < 2 ? 0 : isRowClosed ? n : n - 1;
            for (int s = 0; s < segmentCount && dashesTaken <= STROKE_DASHES; s++) {
                int to = (s + 1) % n;
                long dx = (long) xs[to] - xs[s];
                long dy = (long) ys[to] - ys[s];
                long length = Numbers.root(dx * dx + dy * dy);
                long walked = 0;
                while (left < length - walked && dashesTaken <= STROKE_DASHES) {
                    walked += left;
                    int x = (int) (xs[s] + Numbers.rounded(dx * walked, length));
                    int y = (int) (ys[s] + Numbers.rounded(dy * walked, length));
                    addDashPoint(x, y);
                    if (!isGap && !makePieces(dashXs, dashYs, dashPoints, false)) {
                        return false;
                    }
                    dash = (dash + 1) % dashCount;
                    isGap = !isGap;
                    left = dashes[dash];
                    dashesTaken++;
                    beginDash(x, y);
                }
                left -= length - walked;
                addDashPoint(xs[to], ys[to]);
            }
            return dashesTaken <= STROKE_DASHES
                    && (isGap || makePieces(dashXs, dashYs, dashPoints, false));
        }

        private void beginDash(int x, int y) {
            dashXs[0] = x;
            dashYs[0] = y;
            dashPoints = 1;
        }

        private void addDashPoint(int x, int y) {
            if (x != dashXs[dashPoints - 1] || y != dashYs[dashPoints - 1]) {
                dashXs[dashPoints] = x;
                dashYs[dashPoints] = y;
                dashPoints++;
            }
        }

        private boolean makePieces(int[] runXs, int[] runYs, int n, boolean isClosed) {
            if (n < 2) {
                return true;
            }
            int segmentCount = isClosed ? n : n - 1;
            for (int s = 0; s < segmentCount; s++) {
                int to = (s + 1) % n;
                measure(s, (long) runXs[to] - runXs[s], (long) runYs[to] - runYs[s]);
            }
            boolean hasCaps = isCapped && !isClosed;
            if (hasCaps) {
                makeCap(runXs[0], runYs[0], 0, -1);
                if (!keepPiece()) {
                    return false;
                }
            }
            for (int s = 0; s < segmentCount; s++) {
                int to = (s + 1) % n;
                makeSide(runXs[s], runYs[s], s);
                if (!keepPiece()) {
                    return false;
                }
                boolean isJoined = (isClosed || s + 1 < segmentCount)
                        && makeJoin(runXs[to], runYs[to], s, (s + 1) % segmentCount);
                if (isJoined && !keepPiece()) {
                    return false;
                }
            }
            if (hasCaps) {
                makeCap(runXs[n - 1], runYs[n - 1], segmentCount - 1, 1);
            }
            return !hasCaps || keepPiece();
        }

        private void measure(int s, long dx, long dy) {
            long length = Numbers.root(dx * dx + dy * dy);
            segments[5 * s] = (int) dx;
            segments[5 * s + 1] = (int) dy;
            segments[5 * s + 2] = (int) Numbers.rounded(-dy * half, length);
            segments[5 * s + 3] = (int) Numbers.rounded(dx * half, length);
            segments[5 * s + 4] = (int) Numbers.rounded(dy * half, length);
        }

        private void setCorner(int i, long x, long y) {
            piece[2 * i] = x;
            piece[2 * i + 1] = y;
        }

        private void makeSide(long x, long y, int s) {
            long dx = segments[5 * s];
            long dy = segments[5 * s + 1];
            long nx = segments[5 * s + 2];
            long ny = segments[5 * s + 3];
            setCorner(0, x + nx, y + ny);
            setCorner(1, x + dx + nx, y + dy + ny);
            setCorner(2, x + dx - nx, y + dy - ny);
            setCorner(3, x - nx, y - ny);
        }

        /** The cap at the end of a run (way 1) or at its beginning (way -1). */
        private void makeCap(long x, long y, int s, int way) {
            long nx = way * segments[5 * s + 2];
            long ny = way * segments[5 * s + 3];
            // What lies ALONG goes to the right as far as what lies ACROSS goes down.
            long tx = ny;
            long ty = way * segments[5 * s + 4];
            setCorner(0, x + nx, y + ny);
            setCorner(1, x + nx + tx, y + ny + ty);
            setCorner(2, x - nx + tx, y - ny + ty);
            setCorner(3, x - nx, y - ny);
        }

        /** The join of two segments at the point between them; false if there is none. */
        private boolean makeJoin(long x, long y, int s, int next) {
            long side = (long) segments[5 * s] * segments[5 * next + 1]
                    - (long) segments[5 * s + 1] * segments[5 * next];
            if (side == 0) {
                return false;
            }
            int way = side > 0 ? -1 : 1;
            long nx = segments[5 * s + 2];
            long ny = segments[5 * s + 3];
            long mx = segments[5 * next + 2];
            long my = segments[5 * next + 3];
            setCorner(0, x, y);
            setCorner(1, x + way * nx, y + way * ny);
            setCorner(2, x + way * mx, y + way * my);
            setCorner(3, x + way * mx, y + way * my);
            long both = nx * mx + ny * my;
            long square = half * half;
            if (isMitred && both * ONE >= bend * square && square + both > 0) {
                long far = Numbers.rounded(square * ONE, square + both);
                setCorner(2, x + way * Numbers.rounded((nx + mx) * far, ONE),
                        y + way * Numbers.rounded((ny + my) * far, ONE));
            }
            return true;
        }

        private boolean keepPiece() {
            if (pieceCount == STROKE_PIECES) {
                return false;
            }
            corners = grown(corners, 8 * pieceCount + 8, 8 * STROKE_PIECES);
            for (int i = 0; i < 8; i++) {
                if (piece[i] < -PLACE || piece[i] > PLACE) {
                    return false;
                }
                corners[8 * pieceCount + i] = (int) piece[i];
            }
            pieceCount++;
            return true;
        }
    }

    /** The operators on matrices, paths and graphics, those that paint, and fonts. */
    private static final class Drawing {
        private static final int ARC_PARTS = 42, LEAST_FLATNESS = 7;
        private static final int[] QUARTER_XS = {65536, 65536, 36195, 0};
        private static final int[] QUARTER_YS = {0, 36195, 65536, 65536};
        private final Stacks stacks;
        private final Store store;
        private final Dictionaries dictionaries;
        private final int rows;
        final Painter painter;
        private final Stroker stroker = new Stroker();
        Graphics graphics;
        private final Graphics[] pile = new Graphics[PILE];
        int pileCount;
        private final Path flat = new Path();
        private final int[] halves = new int[108];
        private final int[] matrix = new int[6];
        private final int[] fontMatrix = new int[6];
        /** The units of the operands of an operator, the lowest one first. */
        private final long[] taken = new long[MOST_TAKEN];
        private final int[] arcXs = new int[4 * ARC_PARTS];
        private final int[] arcYs = new int[4 * ARC_PARTS];
        private int arcPoints;
        private boolean isArcOut;

        Drawing(Stacks stacks, int columns, int rows) {
            this.stacks = stacks;
            this.store = stacks.store;
            this.dictionaries = stacks.dictionaries;
            this.rows = rows;
            painter = new Painter(columns, rows);
            graphics = new Graphics(painter.inside.length);
        }

        void renew() {
            painter.erase();
            pileCount = 0;
            graphics.renew(rows);
            freeClip();
        }

        private void freeClip() {
            painter.setAll(graphics.clip);
            graphics.clipRuns = rows;
        }

        int clipPixels() {
            return painter.pixelsIn(graphics.clip);
        }

        /** Takes the topmost operands as reals; false when one is refused. */
        private boolean takeReals(int n) {
            for (int i = 0; i < n; i++) {
                taken[i] = asReal(stacks.top(n - 1 - i));
                if (taken[i] == UNREAL) {
                    return false;
                }
            }
            return true;
        }

        private int giveReals(int operands, long x, long y) {
            if (!Numbers.isReal(x) || !Numbers.isReal(y)) {
                return RANGE;
            }
            if (!stacks.fits(2 - operands)) {
                return STACK_OVERFLOW;
            }
            stacks.height -= operands;
            stacks.push(value(REAL, (int) x));
            return stacks.push(value(REAL, (int) y));
        }

        int workOnMatrices(int op) {
            switch (op) {
                case DO_MATRIX:
                    return makeMatrix();
                case DO_CURRENTMATRIX:
                    return tellMatrix();
                case DO_SETMATRIX:
                case DO_CONCAT:
                    return setMatrix(op);
                case DO_TRANSFORM:
                case DO_DTRANSFORM:
                case DO_ITRANSFORM:
                    return transform(op);
                default:
                    return changeMatrix(op);
            }
        }

        private int makeMatrix() {
            if (!store.hasRoom(1, 6, 0)) {
                return VM;
            }
            if (!stacks.fits(1)) {
                return STACK_OVERFLOW;
            }
            Numbers.setMatrix(matrix, ONE, 0, 0, ONE);
            return stacks.push(newMatrix());
        }

        /** A new array of the reals of the matrix that was made; its room has been looked at. */
        private long newMatrix() {
            int row = store.takeArray(6);
            for (int i = 0; i < 6; i++) {
                store.places[store.rowStart[row] + i] = value(REAL, matrix[i]);
            }
            return value(ARRAY, row);
        }

        private int tellMatrix() {
            int row = payload(stacks.top(0));
            if (store.rowLength[row] != 6) {
                return RANGE;
            }
            for (int i = 0; i < 6; i++) {
                if (!store.setPlace(store.rowStart[row] + i, value(REAL, graphics.matrix[i]))) {
                    return VM;
                }
            }
            return FINE;
        }

        /** Reads a matrix from an array or procedure. */
        private int readMatrix(long row, int[] result) {
            int start = store.rowStart[payload(row)];
            if (store.rowLength[payload(row)] != 6) {
                return RANGE;
            }
            for (int i = 0; i < 6; i++) {
                if (!isNumber(store.places[start + i])) {
                    return TYPE_CHECK;
                }
            }
            for (int i = 0; i < 6; i++) {
                long units = asReal(store.places[start + i]);
                if (units == UNREAL) {
                    return RANGE;
                }
                result[i] = (int) units;
            }
            return FINE;
        }

        private int setMatrix(int op) {
            int fault = readMatrix(stacks.top(0), matrix);
            if (fault != FINE) {
                return fault;
            }
            if (op == DO_SETMATRIX) {
                System.arraycopy(matrix, 0, graphics.matrix, 0, 6);
            } else if (!Numbers.putBefore(matrix, graphics.matrix, graphics.matrix)) {
                return RANGE;
            }
            stacks.height--;
            return FINE;
        }

        private int changeMatrix(int op) {
            int operands = op == DO_ROTATE ? 1 : 2;
            if (!takeReals(operands)) {
                return RANGE;
            }
            if (op == DO_ROTATE) {
                int sine = Numbers.sine(taken[0]);
                int cosine = Numbers.cosine(taken[0]);
                Numbers.setMatrix(matrix, cosine, sine, -sine, cosine);
            } else if (op == DO_SCALE) {
                Numbers.setMatrix(matrix, (int) taken[0], 0, 0, (int) taken[1]);
            } else {
                Numbers.setMatrix(matrix, ONE, 0, 0, ONE);
                matrix[4] = (int) taken[0];
                matrix[5] = (int) taken[1];
            }
            if (!Numbers.putBefore(matrix, graphics.matrix, graphics.matrix)) {
                return RANGE;
            }
            stacks.height -= operands;
            return FINE;
        }

        private int transform(int op) {
            if (!takeReals(2)) {
                return RANGE;
            }
            int[] by = graphics.matrix;
            if (op == DO_DTRANSFORM) {
                return giveReals(2, Numbers.turnedX(by, taken[0], taken[1]),
                        Numbers.turnedY(by, taken[0], taken[1]));
            }
            if (op == DO_ITRANSFORM) {
                int fault = Numbers.invert(by, matrix);
                if (fault != FINE) {
                    return fault;
                }
                by = matrix;
            }
            return giveReals(2, Numbers.movedX(by, taken[0], taken[1]),
                    Numbers.movedY(by, taken[0], taken[1]));
        }

        int workOnPaths(int op) {
            Path path = graphics.path;
            switch (op) {
                case DO_NEWPATH:
                    path.clear();
                    return FINE;
                case DO_CURRENTPOINT:
                    return tellPoint();
                case DO_CLOSEPATH:
                    return path.close();
                case DO_ARC:
                case DO_ARCN:
                    return addArc(op);
                case DO_FLATTENPATH:
                    return flattenPath();
                case DO_REVERSEPATH:
                    if (!stacks.canWork(path.partCount)) {
                        return LIMIT;
                    }
                    path.reverse();
                    return FINE;
                case DO_PATHBBOX:
                    return tellBox();
                default:
                    return extendPath(op);
            }
        }

        /** moveto, lineto, curveto, and those that go from THE POINT. */
        private int extendPath(int op) {
            Path path = graphics.path;
            boolean isCurve = op == DO_CURVETO || op == DO_RCURVETO;
            boolean isFromPoint = op >= DO_RMOVETO;
            if (path.partCount == 0 && op != DO_MOVETO) {
                return NO_POINT;
            }
            int operands = isCurve ? 6 : 2;
            if (!takeReals(operands)) {
                return RANGE;
            }
            for (int i = 0; i < operands; i += 2) {
                int fault = isFromPoint ? setPointFrom(i) : setPoint(i);
                if (fault != FINE) {
                    return fault;
                }
            }
            int fault = isCurve ? path.curveTo(arcXs, arcYs, 0)
                    : op == DO_MOVETO || op == DO_RMOVETO ? path.moveTo(arcXs[0], arcYs[0])
                    : path.lineTo(arcXs[0], arcYs[0]);
            if (fault == FINE) {
                stacks.height -= operands;
            }
            return fault;
        }

        private int setPoint(int i) {
            long x = Numbers.movedX(graphics.matrix, taken[i], taken[i + 1]);
            long y = Numbers.movedY(graphics.matrix, taken[i], taken[i + 1]);
            if (!Numbers.isReal(x) || !Numbers.isReal(y)) {
                return RANGE;
            }
            return keepPoint(i / 2, x, y);
        }

        private int setPointFrom(int i) {
            long x = Numbers.turnedX(graphics.matrix, taken[i], taken[i + 1]);
            long y = Numbers.turnedY(graphics.matrix, taken[i], taken[i + 1]);
            if (!Numbers.isReal(x) || !Numbers.isReal(y)) {
                return RANGE;
            }
            return keepPoint(i / 2, graphics.path.pointX() + x, graphics.path.pointY() + y);
        }

        private int keepPoint(int i, long x, long y) {
            if (!Numbers.isPlace(x) || !Numbers.isPlace(y)) {
                return LIMIT;
            }
            arcXs[i] = (int) x;
            arcYs[i] = (int) y;
            return FINE;
        }

        private int tellPoint() {
            Path path = graphics.path;
            if (path.partCount == 0) {
                return NO_POINT;
            }
            int fault = Numbers.invert(graphics.matrix, matrix);
            if (fault != FINE) {
                return fault;
            }
            return giveReals(0, Numbers.movedX(matrix, path.pointX(), path.pointY()),
                    Numbers.movedY(matrix, path.pointX(), path.pointY()));
        }

        private int tellBox() {
            Path path = graphics.path;
            if (!stacks.canWork(path.partCount)) {
                return LIMIT;
            }
            if (path.partCount == 0) {
                return NO_POINT;
            }
            int fault = Numbers.invert(graphics.matrix, matrix);
            if (fault != FINE) {
                return fault;
            }
            int left = path.xs[0];
            int right = left;
            int top = path.ys[0];
            int bottom = top;
            for (int i = 1; i < path.pointCount; i++) {
                left = Math.min(left, path.xs[i]);
                right = Math.max(right, path.xs[i]);
                top = Math.min(top, path.ys[i]);
                bottom = Math.max(bottom, path.ys[i]);
            }
            return giveBox(left, right, top, bottom);
        }

        private int giveBox(int left, int right, int top, int bottom) {
            long leastX = BEYOND;
            long leastY = BEYOND;
            long greatestX = -BEYOND;
            long greatestY = -BEYOND;
            for (int corner = 0; corner < 4; corner++) {
                int x = (corner & 1) == 0 ? left : right;
                int y = (corner & 2) == 0 ? top : bottom;
                long movedX = Numbers.movedX(matrix, x, y);
                long movedY = Numbers.movedY(matrix, x, y);
                leastX = Math.min(leastX, movedX);
                greatestX = Math.max(greatestX, movedX);
                leastY = Math.min(leastY, movedY);
                greatestY = Math.max(greatestY, movedY);
            }
            if (!Numbers.isReal(leastX) || !Numbers.isReal(leastY)
                    || !Numbers.isReal(greatestX) || !Numbers.isReal(greatestY)) {
                return RANGE;
            }
            if (!stacks.fits(4)) {
                return STACK_OVERFLOW;
            }
            giveReals(0, leastX, leastY);
            return giveReals(0, greatestX, greatestY);
        }

        private int flattenPath() {
            if (!stacks.canWork(graphics.path.partCount)
                    || !flat.flattenFrom(graphics.path, halves, graphics.flatness)) {
                return LIMIT;
            }
            graphics.path.copyFrom(flat);
            return FINE;
        }

        private int addArc(int op) {
            if (!takeReals(5)) {
                return RANGE;
            }
            int[] m = graphics.matrix;
            long x = Numbers.movedX(m, taken[0], taken[1]);
            long y = Numbers.movedY(m, taken[0], taken[1]);
            // The axes: (p, q) and (r, s), the second one as the turned (0, radius).
            Numbers.setMatrix(matrix, (int) taken[2], 0, 0, (int) taken[2]);
            if (!Numbers.isReal(x) || !Numbers.isReal(y)
                    || !Numbers.putBefore(matrix, m, matrix)) {
                return RANGE;
            }
            long begin = taken[3];
            long end = turnedEnd(begin, taken[4], op == DO_ARCN);
            if (Math.abs(end - begin) > 10 * Numbers.TURN) {
                return RANGE;
            }
            isArcOut = !Numbers.isPlace(x) || !Numbers.isPlace(y);
            for (int i = 0; i < 4; i++) {
                isArcOut |= !Numbers.isPlace(matrix[i]);
            }
            cutArc(Math.min(begin, end), Math.max(begin, end));
            if (arcPoints == 0) {
                cutQuarter(Math.floorDiv(begin, Numbers.QUARTER), 0, placeInQuarter(begin));
                arcXs[0] = arcXs[3];
                arcYs[0] = arcYs[3];
            } else if (op == DO_ARCN) {
                turnArc();
            }
            moveArc(x, y);
            return isArcOut ? LIMIT : keepArc();
        }

        /** The end of an arc, brought by whole turns to where it is not before the beginning. */
        private static long turnedEnd(long begin, long end, boolean isBackwards) {
            long behind = isBackwards ? end - begin : begin - end;
            if (behind <= 0) {
                return end;
            }
            long turns = (behind + Numbers.TURN - 1) / Numbers.TURN;
            return end + (isBackwards ? -turns : turns) * Numbers.TURN;
        }

        private static int placeInQuarter(long degrees) {
            return (int) Numbers.rounded(Math.floorMod(degrees, Numbers.QUARTER), 90);
        }

        /** The curves of an arc on the unit circle, four points each. */
        private void cutArc(long begin, long end) {
            arcPoints = 0;
            long firstQuarter = Math.floorDiv(begin, Numbers.QUARTER);
            long lastQuarter = Math.floorDiv(end, Numbers.QUARTER);
            for (long q = firstQuarter; q <= lastQuarter && arcPoints < 4 * ARC_PARTS; q++) {
                int from = q == firstQuarter ? placeInQuarter(begin) : 0;
                int to = q == lastQuarter ? placeInQuarter(end) : ONE;
                if (from != to) {
                    cutQuarter(q, from, to);
                    arcPoints += 4;
                }
            }
        }

        /** The part of a quarter of the unit circle from one place to another. */
        private void cutQuarter(long quarter, int from, int to) {
            int turn = (int) Math.floorMod(quarter, 4L);
            for (int i = 0; i < 4; i++) {
                int a = QUARTER_XS[i];
                int b = QUARTER_YS[i];
                arcXs[arcPoints + i] = turn == 0 ? a : turn == 1 ? -b : turn == 2 ? -a : b;
                arcYs[arcPoints + i] = turn == 0 ? b : turn == 1 ? a : turn == 2 ? -b : -a;
            }
            cutCurve(arcXs, arcPoints, to, true);
            cutCurve(arcYs, arcPoints, to, true);
            if (from > 0) {
                int behind = (int) Numbers.rounded((long) from * ONE, to);
                cutCurve(arcXs, arcPoints, behind, false);
                cutCurve(arcYs, arcPoints, behind, false);
            }
        }

        /** Keeps what is before or behind a place of a curve, of its x or of its y. */
        private static void cutCurve(int[] row, int at, int t, boolean isBefore) {
            int a = mix(row[at], row[at + 1], t);
            int b = mix(row[at + 1], row[at + 2], t);
            int c = mix(row[at + 2], row[at + 3], t);
            int d = mix(a, b, t);
            int e = mix(b, c, t);
            int f = mix(d, e, t);
            if (isBefore) {
                row[at + 1] = a;
                row[at + 2] = d;
                row[at + 3] = f;
            } else {
                row[at] = f;
                row[at + 1] = e;
                row[at + 2] = c;
            }
        }

        private static int mix(int a, int b, int t) {
            return a + (int) ((long) (b - a) * t + HALF >> 16);
        }

        private void turnArc() {
            int low = 0;
            for (int high = arcPoints - 1; low < high; high--) {
                int x = arcXs[low];
                int y = arcYs[low];
                arcXs[low] = arcXs[high];
                arcYs[low] = arcYs[high];
                arcXs[high] = x;
                arcYs[high] = y;
                low++;
            }
        }

        /** Brings the points of the unit circle to the page, around the middle, by the axes. */
        private void moveArc(long middleX, long middleY) {
            for (int i = 0; i < Math.max(arcPoints, 1); i++) {
                long a = arcXs[i];
                long b = arcYs[i];
                long x = middleX + (a * matrix[0] + b * matrix[2] + HALF >> 16);
                long y = middleY + (a * matrix[1] + b * matrix[3] + HALF >> 16);
                isArcOut |= keepPoint(i, x, y) != FINE;
            }
        }

        private int keepArc() {
            Path path = graphics.path;
            int curves = arcPoints / 4;
            if (!path.canGoOn(1 + curves)) {
                return LIMIT;
            }
            if (path.partCount == 0) {
                path.moveTo(arcXs[0], arcYs[0]);
            } else {
                path.lineTo(arcXs[0], arcYs[0]);
            }
            for (int i = 0; i < curves; i++) {
                path.curveTo(arcXs, arcYs, 4 * i + 1);
            }
            stacks.height -= 5;
            return FINE;
        }

        int workOnGraphics(int op) {
            switch (op) {
                case DO_CURRENTGRAY:
                    return stacks.push(value(REAL, graphics.shade));
                case DO_CURRENTLINEWIDTH:
                    return stacks.push(value(REAL, graphics.width));
                case DO_SETLINECAP:
                case DO_SETLINEJOIN:
                    return setEnds(op);
                case DO_SETDASH:
                    return setDashes();
                case DO_INITCLIP:
                    if (!stacks.canWork(rows)) {
                        return LIMIT;
                    }
                    freeClip();
                    return FINE;
                case DO_GSAVE:
                    if (!stacks.canWork(graphics.path.partCount) || !canKeep()) {
                        return LIMIT;
                    }
                    keepGraphics(0);
                    return FINE;
                case DO_GRESTORE:
                    return takeGraphics();
                case DO_SAVE:
                    return save();
                case DO_RESTORE:
                    return restore();
                default:
                    return setNumber(op);
            }
        }

        /** The operators that set one real. */
        private int setNumber(int op) {
            if (!takeReals(1)) {
                return RANGE;
            }
            int x = (int) taken[0];
            if (op == DO_SETGRAY) {
                graphics.shade = Math.max(0, Math.min(ONE, x));
            } else if (op == DO_SETLINEWIDTH) {
                graphics.width = Math.abs(x);
            } else if (op == DO_SETFLAT) {
                graphics.flatness = Math.max(LEAST_FLATNESS, Math.min(100 * ONE, x));
            } else if (x < ONE || x > 100 * ONE) {
                return RANGE;
            } else {
                graphics.mitre = x;
            }
            stacks.height--;
            return FINE;
        }

        private int setEnds(int op) {
            int n = payload(stacks.top(0));
            if (n != 0 && n != 2) {
                return RANGE;
            }
            if (op == DO_SETLINECAP) {
                graphics.cap = n;
            } else {
                graphics.join = n;
            }
            stacks.height--;
            return FINE;
        }

        private int setDashes() {
            long row = stacks.top(1);
            int n = store.rowLength[payload(row)];
            if (n > 8) {
                return RANGE;
            }
            boolean isSome = n == 0;
            for (int i = 0; i < n; i++) {
                long v = store.element(row, i);
                if (!isNumber(v)) {
                    return TYPE_CHECK;
                }
                if (asReal(v) < 0) {
                    return RANGE;
                }
                isSome |= asReal(v) > 0;
            }
            if (!takeReals(1) || !isSome || taken[0] < 0) {
                return RANGE;
            }
            for (int i = 0; i < n; i++) {
                graphics.dashes[i] = (int) asReal(store.element(row, i));
            }
            graphics.dashCount = n;
            graphics.dashOffset = (int) taken[0];
            stacks.height -= 2;
            return FINE;
        }

        private int runsOnPile() {
            int found = 0;
            for (int i = 0; i < pileCount; i++) {
                found += pile[i].clipRuns;
            }
            return found;
        }

        private boolean canKeep() {
            return pileCount < PILE && runsOnPile() + 2 * graphics.clipRuns <= CLIP_RUNS;
        }

        private void keepGraphics(int saveNumber) {
            if (pile[pileCount] == null) {
                pile[pileCount] = new Graphics(graphics.clip.length);
            }
            pile[pileCount].copyFrom(graphics);
            pile[pileCount].saveNumber = saveNumber;
            pileCount++;
        }

        private int takeGraphics() {
            if (!stacks.canWork(graphics.path.partCount)) {
                return LIMIT;
            }
            if (pileCount == 0) {
                return FINE;
            }
            Graphics latest = pile[pileCount - 1];
            if (latest.saveNumber != 0) {
                if (runsOnPile() + latest.clipRuns > CLIP_RUNS) {
                    return LIMIT;
                }
                graphics.copyFrom(latest);
                return FINE;
            }
            goBackTo(pileCount - 1);
            return FINE;
        }

        /** Makes the pile as deep as it was, if it is deeper, with the lowest copy that goes. */
        void goBackTo(int depthBefore) {
            if (pileCount > depthBefore) {
                Graphics left = graphics;
                graphics = pile[depthBefore];
                pile[depthBefore] = left;
                pileCount = depthBefore;
            }
        }

        private int save() {
            if (!stacks.canWork(graphics.path.partCount) || !canKeep()) {
                return LIMIT;
            }
            if (store.saveCount == SAVES) {
                return VM;
            }
            if (!stacks.fits(1)) {
                return STACK_OVERFLOW;
            }
            int number = store.takeSave();
            keepGraphics(number);
            return stacks.push(value(SAVED, number));
        }

        private int restore() {
            int number = payload(stacks.top(0));
            int save = store.findSave(number);
            if (save < 0 || isNewerHeld(save) || isNewerCalled(save)) {
                return INVALID_RESTORE;
            }
            endLoopsOverKeys(store.keysAt(save));
            dictionaries.unlinkKeys(store.keysAt(save));
            store.goBack(save);
            for (int i = pileCount - 1; i >= 0; i--) {
                if (pile[i].saveNumber == number) {
                    goBackTo(i);
                }
            }
            stacks.height--;
            return FINE;
        }

        /** Whether what came behind a save is on a stack of values, or a font of the graphics. */
        private boolean isNewerHeld(int save) {
            for (int i = 0; i < stacks.height; i++) {
                if (store.isNewer(stacks.operands[i], save)) {
                    return true;
                }
            }
            for (int i = 0; i < stacks.openedCount; i++) {
                if (store.isNewer(value(DICTIONARY, stacks.opened[i]), save)) {
                    return true;
                }
            }
            for (int i = 0; i < pileCount; i++) {
                if (store.isNewer(value(DICTIONARY, pile[i].font), save)) {
                    return true;
                }
            }
            return store.isNewer(value(DICTIONARY, graphics.font), save);
        }

        private boolean isNewerCalled(int save) {
            for (int i = 0; i < stacks.callCount; i++) {
                Call call = stacks.calls[i];
                if (store.isNewer(value(PROCEDURE, call.row), save)
                        || store.isNewer(call.source, save)
                        || call.kind == SHOW && store.isNewer(value(DICTIONARY, call.font), save)) {
                    return true;
                }
            }
            return false;
        }

        /** A loop over a dictionary whose latest key goes is over. */
        private void endLoopsOverKeys(int keysLeft) {
            for (int i = 0; i < stacks.callCount; i++) {
                Call call = stacks.calls[i];
                if (call.kind == FORALL && call.latestKey >= keysLeft) {
                    call.isOver = true;
                }
            }
        }

        int paint(int op) {
            switch (op) {
                case DO_FILL:
                case DO_EOFILL:
                    return fill(op == DO_EOFILL ? 1 : 0);
                case DO_CLIP:
                case DO_EOCLIP:
                    return clip(op == DO_EOCLIP ? 1 : 0);
                case DO_ERASEPAGE:
                    if (!stacks.canWork(rows * 64L)) {
                        return LIMIT;
                    }
                    painter.erase();
                    return FINE;
                case DO_STROKE:
                    return stroke();
                case DO_DEFINEFONT:
                    return defineFont();
                case DO_FINDFONT:
                    return findFont();
                case DO_SCALEFONT:
                    return scaleFont();
                case DO_SETFONT:
                    return setFont();
                case DO_CURRENTFONT:
                    return stacks.push(graphics.font < 0 ? NULL : value(DICTIONARY, graphics.font));
                case DO_SHOW:
                    return beginShow();
                default:
                    return setCharWidth();
            }
        }

        private int shadePainted() {
            return 255 * graphics.shade + HALF >> 16;
        }

        /** Finds the pixels of the clip inside the path; false when that is beyond the limits. */
        private boolean findInside(int rule) {
            if (!stacks.canWork(rows * (64L + graphics.path.partCount))
                    || !flat.flattenFrom(graphics.path, halves, graphics.flatness)) {
                return false;
            }
            painter.beginOutline();
            painter.addOutline(flat);
            painter.findInside(rule, graphics.clip);
            return true;
        }

        private int fill(int rule) {
            if (!findInside(rule)) {
                return LIMIT;
            }
            painter.paintInside(shadePainted());
            graphics.path.clear();
            return FINE;
        }

        private int clip(int rule) {
            if (!findInside(rule)) {
                return LIMIT;
            }
            painter.clearUntouched();
            int runs = painter.runsIn(painter.inside);
            if (runsOnPile() + runs > CLIP_RUNS) {
                return LIMIT;
            }
            System.arraycopy(painter.inside, 0, graphics.clip, 0, graphics.clip.length);
            graphics.clipRuns = runs;
            return FINE;
        }

        private int stroke() {
            if (!stacks.canWork(rows * (64L + 16L * graphics.path.partCount))
                    || !flat.flattenFrom(graphics.path, halves, graphics.flatness)
                    || flat.pointCount > STROKE_POINTS
                    || !stroker.prepare(graphics, flat.pointCount)) {
                return LIMIT;
            }
            int point = 0;
            for (int i = 0; i < flat.partCount; i++) {
                if (flat.parts[i] == BEGINNING) {
                    stroker.takeRow(flat, i, point);
                    if (!(stroker.isDashed() ? stroker.walk() : stroker.strokeWhole())) {
                        return LIMIT;
                    }
                }
                point += flat.parts[i] == CLOSING ? 0 : 1;
            }
            for (int i = 0; i < stroker.pieceCount; i++) {
                fillPiece(8 * i);
            }
            graphics.path.clear();
            return FINE;
        }

        private void fillPiece(int at) {
            int[] c = stroker.corners;
            painter.beginOutline();
            painter.addEdge(c[at], c[at + 1], c[at + 2], c[at + 3]);
            painter.addEdge(c[at + 2], c[at + 3], c[at + 4], c[at + 5]);
            painter.addEdge(c[at + 4], c[at + 5], c[at + 6], c[at + 7]);
            painter.addEdge(c[at + 6], c[at + 7], c[at], c[at + 1]);
            painter.findInside(0, graphics.clip);
            painter.paintInside(shadePainted());
        }

        private long glyphsOf(int dictionary) {
            return dictionaries.find(dictionary, value(STANDING, BUILD_GLYPH));
        }

        /** Whether a dictionary is a font; if so its matrix is kept. */
        private boolean isFont(int dictionary) {
            long row = dictionaries.find(dictionary, value(STANDING, FONT_MATRIX));
            long glyphs = dictionaries.find(dictionary, value(STANDING, BUILD_GLYPH));
            return (kind(row) == ARRAY || kind(row) == PROCEDURE) && kind(glyphs) == PROCEDURE
                    && readMatrix(row, fontMatrix) == FINE;
        }

        private int defineFont() {
            long key = stacks.top(1);
            long font = stacks.top(0);
            if (!isFont(payload(font))) {
                return INVALID_FONT;
            }
            if (dictionaries.isTooLong(key)) {
                return RANGE;
            }
            int fault = dictionaries.define(FONTS, key, font);
            return fault != FINE ? fault : stacks.give(2, font);
        }

        private int findFont() {
            if (dictionaries.isTooLong(stacks.top(0))) {
                return RANGE;
            }
            long font = dictionaries.find(FONTS, dictionaries.keyFor(stacks.top(0)));
            return font == ABSENT ? INVALID_FONT : stacks.give(1, font);
        }

        private int scaleFont() {
            int font = payload(stacks.top(1));
            if (!stacks.canWork(dictionaries.keysIn(font))) {
                return LIMIT;
            }
            if (!isFont(font)) {
                return INVALID_FONT;
            }
            if (!takeReals(1)) {
                return RANGE;
            }
            Numbers.setMatrix(matrix, (int) taken[0], 0, 0, (int) taken[0]);
            if (!Numbers.putBefore(fontMatrix, matrix, matrix)) {
                return RANGE;
            }
            if (!dictionaries.hasRoom()) {
                return VM;
            }
            int made = dictionaries.takeDictionary();
            int fault = dictionaries.copyKeys(font, made);
            if (fault != FINE) {
                return fault;
            }
            if (!store.hasRoom(1, 6, 0)) {
                return VM;
            }
            dictionaries.define(made, value(STANDING, FONT_MATRIX), newMatrix());
            return stacks.give(2, value(DICTIONARY, made));
        }

        private int setFont() {
            int font = payload(stacks.top(0));
            if (!isFont(font)) {
                return INVALID_FONT;
            }
            graphics.font = font;
            stacks.height--;
            return FINE;
        }

        private int beginShow() {
            long text = stacks.top(0);
            int length = store.rowLength[payload(text)];
            if (!stacks.canWork(length * (1L + graphics.path.partCount))) {
                return LIMIT;
            }
            if (graphics.font < 0 || !isFont(graphics.font)) {
                return INVALID_FONT;
            }
            if (graphics.path.partCount == 0) {
                return NO_POINT;
            }
            if (stacks.callCount == CALLS) {
                return CALLS_OVERFLOW;
            }
            Call call = stacks.newCall(SHOW);
            call.source = text;
            call.next = 0;
            call.end = length;
            call.font = graphics.font;
            stacks.height--;
            return FINE;
        }

        /** The next glyph of a show; it is under way unless it fails before BuildGlyph is called. */
        int beginGlyph(Call call) {
            if (!canKeep()) {
                return LIMIT;
            }
            if (!isFont(call.font)) {
                return INVALID_FONT;
            }
            System.arraycopy(graphics.matrix, 0, matrix, 0, 4);
            matrix[4] = graphics.path.pointX();
            matrix[5] = graphics.path.pointY();
            if (!Numbers.putBefore(fontMatrix, matrix, matrix)) {
                return RANGE;
            }
            if (!stacks.fits(2)) {
                return STACK_OVERFLOW;
            }
            call.pileBefore = pileCount;
            call.x = graphics.path.pointX();
            call.y = graphics.path.pointY();
            call.widthX = 0;
            call.widthY = 0;
            call.underWay = true;
            System.arraycopy(graphics.matrix, 0, call.matrix, 0, 6);
            keepGraphics(0);
            System.arraycopy(matrix, 0, graphics.matrix, 0, 6);
            graphics.path.clear();
            stacks.push(value(DICTIONARY, call.font));
            stacks.push(store.element(call.source, call.next));
            call.next++;
            return stacks.callProcedure(glyphsOf(call.font));
        }

        /** Behind a glyph: THE POINT is where it was, and the glyph's width further. */
        int endGlyph(Call call) {
            goBackTo(call.pileBefore);
            if (!isFont(call.font)) {
                return INVALID_FONT;
            }
            long x = Numbers.turnedX(fontMatrix, call.widthX, call.widthY);
            long y = Numbers.turnedY(fontMatrix, call.widthX, call.widthY);
            if (!Numbers.isReal(x) || !Numbers.isReal(y)) {
                return RANGE;
            }
            long wayX = Numbers.turnedX(call.matrix, x, y);
            long wayY = Numbers.turnedY(call.matrix, x, y);
            if (!Numbers.isReal(wayX) || !Numbers.isReal(wayY)) {
                return RANGE;
            }
            int fault = keepPoint(0, call.x + wayX, call.y + wayY);
            return fault != FINE ? fault : graphics.path.moveTo(arcXs[0], arcYs[0]);
        }

        private int setCharWidth() {
            int at = stacks.callCount - 1;
            while (at >= 0 && stacks.calls[at].kind != SHOW) {
                at--;
            }
            if (at < 0) {
                return UNDEFINED;
            }
            if (!takeReals(2)) {
                return RANGE;
            }
            stacks.calls[at].widthX = (int) taken[0];
            stacks.calls[at].widthY = (int) taken[1];
            stacks.height -= 2;
            return FINE;
        }
    }
}
