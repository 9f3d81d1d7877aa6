import java.util.Arrays;

/**
 * A foundry for a small language of the C kind: texts are read, their names and types are told, they are cast
 * into words of RV32IM, and a machine of the foundry's own runs these in a memory of bytes.
 *
 * A text goes through Tokens, Former (FORM), Meaning with Typing (MEANING, END) and Caster, each ahead of the
 * next one, since the document wants every fault of one stage ahead of all faults of the next.
 */
public final class WordFoundry {
    /** There is none. */
    public static final int NONE = -1;

    private static final int TAPE_BYTES = 4096;
    private static final int FEED_BYTES = 24;

    // The numbers of faults.
    private static final int BAD_SIGN = 1;
    private static final int BAD_FORM = 2;
    private static final int NOT_KNOWN = 3;
    private static final int TWICE = 4;
    private static final int BAD_TYPE = 5;
    private static final int NO_VARIABLE = 6;
    private static final int BAD_ARGUMENTS = 7;
    private static final int NO_CONSTANT = 8;
    private static final int OUT_OF_PLACE = 9;
    private static final int BAD_LABEL = 10;
    private static final int MISSING = 11;
    private static final int LIMIT = 12;

    // Limits of texts.
    private static final int NAME_SIGNS = 24;
    private static final int STRING_SIGNS = 200;
    private static final int MOST_NEST = 24;
    private static final int MOST_HEIGHT = 60;
    private static final int MOST_NAMES = 500;
    private static final int MOST_FUNCTIONS = 60;
    private static final int MOST_PARAMS = 8;
    private static final int MOST_SIZE = 16384;
    private static final int MOST_FRAME = 8192;
    private static final int MOST_DATA = 32768;
    private static final int MOST_COPIED = 32;
    private static final int FIRST_ADDRESS = 64;

    // Kinds of tokens. Words stand in the order of WORDS.
    private static final int END = 0;
    private static final int NAME = 1;
    private static final int NUMBER = 2;
    private static final int STRING = 3;
    private static final int W_INT = 10;
    private static final int W_CHAR = 11;
    private static final int W_UNSIGNED = 12;
    private static final int W_VOID = 13;
    private static final int W_STRUCT = 14;
    private static final int W_ENUM = 15;
    private static final int W_IF = 16;
    private static final int W_ELSE = 17;
    private static final int W_WHILE = 18;
    private static final int W_DO = 19;
    private static final int W_FOR = 20;
    private static final int W_SWITCH = 21;
    private static final int W_CASE = 22;
    private static final int W_DEFAULT = 23;
    private static final int W_BREAK = 24;
    private static final int W_CONTINUE = 25;
    private static final int W_RETURN = 26;
    private static final int W_SIZEOF = 27;

    // The first eighteen are no names; the others are names that the document itself knows.
    private static final String WORDS =
        "int char unsigned void struct enum if else while do for switch case default break continue return sizeof get put halt main ";
    private static final int WORD_COUNT = 18;
    private static final int NAME_GET = 18;
    private static final int NAME_PUT = 19;
    private static final int NAME_HALT = 20;
    private static final int NAME_MAIN = 21;

    // Operators that are no part of a longer one stand in the order of PLAIN.
    private static final String PLAIN = "()[]{};,:?.~";
    private static final int LPAREN = 40;
    private static final int RPAREN = 41;
    private static final int LBRACKET = 42;
    private static final int RBRACKET = 43;
    private static final int LBRACE = 44;
    private static final int RBRACE = 45;
    private static final int SEMICOLON = 46;
    private static final int COMMA = 47;
    private static final int COLON = 48;
    private static final int QUESTION = 49;
    private static final int DOT = 50;
    private static final int TILDE = 51;
    // Those that have a form with = behind stand in the order of JOINED, then << and >>; that form is ten further on.
    private static final String JOINED = "+-*/%&|^";
    private static final int PLUS = 52;
    private static final int MINUS = 53;
    private static final int STAR = 54;
    private static final int SLASH = 55;
    private static final int PERCENT = 56;
    private static final int AMPERSAND = 57;
    private static final int BAR = 58;
    private static final int CARET = 59;
    private static final int SHIFT_LEFT = 60;
    private static final int SHIFT_RIGHT = 61;
    private static final int ASSIGN_STEP = 10;
    private static final int ASSIGN = 72;
    private static final int NOT = 73;
    private static final int LESS = 74;
    private static final int GREATER = 75;
    private static final int LESS_EQUAL = 76;
    private static final int GREATER_EQUAL = 77;
    private static final int EQUAL = 78;
    private static final int NOT_EQUAL = 79;
    private static final int AND_AND = 80;
    private static final int OR_OR = 81;
    private static final int ARROW = 82;
    private static final int INCREMENT = 83;
    private static final int DECREMENT = 84;

    // Kinds of nodes: parts of an E.
    private static final int N_NUMBER = 1;
    private static final int N_STRING = 2;
    private static final int N_NAME = 3;
    private static final int N_CALL = 4;
    private static final int N_INDEX = 5;
    private static final int N_FIELD = 6;
    private static final int N_ARROW = 7;
    private static final int N_BEFORE = 8;
    private static final int N_AFTER = 9;
    private static final int N_UNARY = 10;
    private static final int N_ADDRESS = 11;
    private static final int N_POINTED = 12;
    private static final int N_CAST = 13;
    private static final int N_SIZEOF = 14;
    private static final int N_BINARY = 15;
    private static final int N_LOGIC = 16;
    private static final int N_CHOICE = 17;
    private static final int N_ASSIGN = 18;
    private static final int N_COMMA = 19;
    // Parts of declarations.
    private static final int N_TYPE = 30;
    private static final int N_ITEM = 31;
    private static final int N_DIM = 32;
    private static final int N_BRACES = 33;
    private static final int N_ROW = 34;
    private static final int N_STRUCT = 35;
    private static final int N_ENUM = 36;
    private static final int N_FUNCTION = 37;
    // S's and what stands among them.
    private static final int N_BLOCK = 40;
    private static final int N_EMPTY = 41;
    private static final int N_EXPRESSION = 42;
    private static final int N_IF = 43;
    private static final int N_WHILE = 44;
    private static final int N_DO = 45;
    private static final int N_FOR = 46;
    private static final int N_SWITCH = 47;
    private static final int N_CASE = 48;
    private static final int N_DEFAULT = 49;
    private static final int N_BREAK = 50;
    private static final int N_CONTINUE = 51;
    private static final int N_RETURN = 52;

    // Kinds of types.
    private static final int T_VOID = 0;
    private static final int T_INT = 1;
    private static final int T_CHAR = 2;
    private static final int T_UNSIGNED = 3;
    private static final int T_POINTER = 4;
    private static final int T_ARRAY = 5;
    private static final int T_STRUCT = 6;

    // Kinds of things, as promise 10 numbers them, and fields.
    private static final int VARIABLE = 1;
    private static final int FUNCTION = 2;
    private static final int ENUM_NAME = 3;
    private static final int FIELD = 4;

    // How the machine is, as promise 8 numbers it.
    private static final int NO_PROGRAM = 0;
    private static final int CAST = 1;
    private static final int STANDS = 2;
    private static final int ENDED = 3;
    private static final int TRAPPED = 4;

    // Traps.
    private static final int TRAP_ZERO = 1;
    private static final int TRAP_ADDRESS = 2;
    private static final int TRAP_ALIGNED = 3;
    private static final int TRAP_FRAME = 4;

    // What an ecall asks of the machine's surroundings, in register SERVICE.
    private static final int ASK_ROUND = 1;
    private static final int ASK_ENTER = 2;
    private static final int ASK_LEAVE = 3;
    private static final int ASK_GET = 4;
    private static final int ASK_PUT = 5;
    private static final int ASK_HALT = 6;
    private static final int ASK_PUSH = 7;
    private static final int ASK_POP = 8;

    // Registers: what a call brings and answers is in ARGUMENT and behind it, an E's parts in PART and behind it.
    private static final int ZERO = 0;
    private static final int RETURN_TO = 1;
    private static final int SP = 2;
    private static final int SERVICE = 5;
    private static final int SCRATCH = 6;
    private static final int SECOND = 7;
    private static final int OLD = 8;
    private static final int FRESH = 9;
    private static final int ARGUMENT = 10;
    private static final int PART = 18;
    private static final int LAST_PART = 31;

    // Words of RV32IM: opcodes and the field funct3 of those that are used.
    private static final int OP_LOAD = 0x03;
    private static final int OP_IMMEDIATE = 0x13;
    private static final int OP_STORE = 0x23;
    private static final int OP_REGISTER = 0x33;
    private static final int OP_UPPER = 0x37;
    private static final int OP_BRANCH = 0x63;
    private static final int OP_JUMP_REGISTER = 0x67;
    private static final int OP_JUMP = 0x6f;
    private static final int OP_SYSTEM = 0x73;
    private static final int F_ADD = 0;
    private static final int F_SHIFT_LEFT = 1;
    private static final int F_LESS = 2;
    private static final int F_LESS_UNSIGNED = 3;
    private static final int F_XOR = 4;
    private static final int F_SHIFT_RIGHT = 5;
    private static final int F_OR = 6;
    private static final int F_AND = 7;
    private static final int F_MUL = 0;
    private static final int F_DIV = 4;
    private static final int F_DIV_UNSIGNED = 5;
    private static final int F_REM = 6;
    private static final int F_REM_UNSIGNED = 7;
    private static final int F_EQUAL = 0;
    private static final int F_NOT_EQUAL = 1;
    private static final int F_BELOW = 4;
    private static final int F_FROM = 5;
    private static final int F_BELOW_UNSIGNED = 6;
    private static final int F_FROM_UNSIGNED = 7;
    // In the number of a shift to the right: that it keeps the sign.
    private static final int KEEPS_SIGN = 1024;
    private static final int F_WORD = 2;
    private static final int F_BYTE_STORE = 0;
    private static final int F_BYTE_UNSIGNED = 4;
    private static final int GROUP_BASE = 0;
    private static final int GROUP_M = 1;
    private static final int GROUP_OTHER = 32;

    // Limits of the machine.
    private static final int MOST_WORDS = 40960;
    private static final int LEAST_MEMORY = 1024;
    private static final int MOST_MEMORY = 65536;
    private static final int MOST_FRAMES = 200;
    private static final int MOST_ROUNDS = 1000;
    private static final int KEPT_OUTPUT = 4096;
    private static final int COUNTED_OUTPUT = 1000000000;
    private static final int FRAME_ROW = 18;
    // Within one FRAME at most 24 calls with 7 arguments each and 36 other parts wait for one another.
    private static final int PUSHED_PER_FRAME = 208;
    // Words run at most once a ROUND or a return, but for a struct's bytes: 2^31 steps are out of reach of one go.
    private static final int MOST_STEPS = 2147483647;

    private final byte[] tape = new byte[TAPE_BYTES];
    private int taped = 0;
    private final Tokens tokens = new Tokens();
    private final Former former = new Former(tokens);
    private final Program program = new Program();
    private final Meaning meaning = new Meaning(program, tokens);
    private final Words words = new Words();
    private final Caster caster = new Caster(program, words);
    private final Machine machine = new Machine(program, words);

    /** An empty tape, no program, an empty INPUT. */
    public WordFoundry() {
    }

    /** Puts n bytes of a, b, c on the tape: how many there are. */
    public int feed(int n, long a, long b, long c) {
        if (n < 1 || n > FEED_BYTES || taped + n > TAPE_BYTES) {
            return NONE;
        }
        for (int i = 0; i < n; i++) {
            long eight = i < 8 ? a : i < 16 ? b : c;
            tape[taped + i] = (byte) (eight >>> 8 * (i & 7));
        }
        taped += n;
        return taped;
    }

    /** Makes the tape's text the program: 0, or the text's fault. */
    public int cast() {
        int length = taped;
        taped = 0;
        machine.forget();
        int fault = tokens.take(tape, length);
        if (fault != 0) {
            return fault;
        }
        Node text = former.form();
        fault = former.fault;
        if (fault == 0) {
            fault = meaning.tell(text);
        }
        if (fault == 0) {
            caster.castAll();
            machine.state = CAST;
        }
        return fault;
    }

    /** Makes the tape the INPUT: how many bytes. */
    public int supply() {
        int count = taped;
        taped = 0;
        machine.takeInput(tape, count);
        return count;
    }

    /** Begins the program anew in a MEMORY of size bytes. */
    public boolean begin(int size) {
        return machine.start(size);
    }

    /** Goes on up to the n-th ROUND: how many began. */
    public int go(int n) {
        if (machine.state != STANDS || n < 0 || n > MOST_ROUNDS) {
            return NONE;
        }
        return machine.run(n);
    }

    /** Byte i of the OUTPUT. */
    public int out(int i) {
        if (i < 0 || i >= KEPT_OUTPUT || i >= machine.sent) {
            return NONE;
        }
        return machine.output[i] & 255;
    }

    /** A number that tells of the tape, the program or its run. */
    public int look(int what) {
        boolean made = machine.state != NO_PROGRAM;
        switch (what) {
            case 0: return taped;
            case 1: return machine.state;
            case 2: return machine.result;
            case 3: return machine.trapPlace;
            case 4: return machine.rounds;
            case 5: return machine.sent;
            case 6: return machine.frames;
            case 7: return machine.leastSp;
            case 8: return made ? program.dataEnd : 0;
            case 9: return made ? program.thingCount : 0;
            case 10: return made ? program.structCount : 0;
            case 11: return machine.inputEnd - machine.inputAt;
            case 12: return machine.size;
            default: return NONE;
        }
    }

    /** Byte of MEMORY at an address. */
    public int peek(int address) {
        if (address < 0 || address >= machine.size) {
            return NONE;
        }
        return machine.memory[address] & 255;
    }

    /** What there is to tell of thing i of the text. */
    public int thing(int i, int what) {
        Thing t = toldThing(i);
        if (t == null) {
            return NONE;
        }
        switch (what) {
            case 0: return t.kind;
            case 1: return t.kind == FUNCTION ? t.paramCount : t.address;
            case 2: return sizeOfThing(t);
            case 3: return t.place;
            default: return NONE;
        }
    }

    /** What there is to tell of variable k of function i. */
    public int local(int i, int k, int what) {
        Thing t = toldThing(i);
        if (t == null || t.block == null || k < 0) {
            return NONE;
        }
        Thing v = t.variables;
        for (int n = 0; n < k && v != null; n++) {
            v = v.next;
        }
        if (v == null || v.type == null) {
            return NONE;
        }
        switch (what) {
            case 0: return v.address;
            case 1: return v.type.size;
            case 2: return v.place;
            default: return NONE;
        }
    }

    /** The place of field k of the s-th complete struct, or its size. */
    public int layout(int s, int k) {
        if (machine.state == NO_PROGRAM || s < 0 || s >= program.structCount || k < NONE) {
            return NONE;
        }
        Type type = program.structs[s];
        if (type == null) {
            return NONE;
        }
        if (k == NONE) {
            return type.size;
        }
        Thing field = type.fields;
        for (int n = 0; n < k && field != null; n++) {
            field = field.next;
        }
        return field == null ? NONE : field.address;
    }

    /** What there is to tell of the d-th FRAME, from the innermost one on. */
    public int frame(int d, int what) {
        if (d < 0 || d >= machine.frames || what < 0 || what > 2) {
            return NONE;
        }
        return machine.rows[(machine.frames - 1 - d) * FRAME_ROW + what];
    }

    private Thing toldThing(int i) {
        if (machine.state == NO_PROGRAM || i < 0 || i >= program.thingCount) {
            return null;
        }
        return program.things[i];
    }

    private static int sizeOfThing(Thing t) {
        if (t.kind == FUNCTION) {
            return t.block == null ? NONE : t.frameSize;
        }
        return t.kind == VARIABLE && t.type != null ? t.type.size : NONE;
    }

    /** A part of a text's tree. AT it is its place; what a, b, c, d are depends on its kind. */
    private static final class Node {
        private final int kind;
        private final int place;
        private int op;
        private int name;
        private int value;
        private int spot = NONE;
        private int close;
        private int height;
        private boolean constant;
        private boolean variable;
        private Type type;
        private Thing thing;
        private Node a;
        private Node b;
        private Node c;
        private Node d;
        private Node next;

        private Node(int kind, int place) {
            this.kind = kind;
            this.place = place;
        }
    }

    /** A type. There is one object for each type of a program, so that == tells whether two are the same. */
    private static final class Type {
        private final int kind;
        private final Type base;
        private final int count;
        private int size;
        private int align;
        // That to this type: made with the first pointer to it or array of it.
        private Type pointer;
        private Type arrays;
        private Type nextArray;
        // Of a struct:
        private int name;
        private boolean told;
        private boolean complete;
        private Thing fields;
        private Thing lastField;
        private Type nextStruct;

        private Type(int kind, Type base, int count, int size, int align) {
            this.kind = kind;
            this.base = base;
            this.count = count;
            this.size = size;
            this.align = align;
        }

        private boolean isArithmetic() {
            return kind == T_INT || kind == T_CHAR || kind == T_UNSIGNED;
        }

        private boolean isScalar() {
            return isArithmetic() || kind == T_POINTER;
        }

        /** Whether a variable can have it, as far as its size is known. */
        private boolean isWhole() {
            return kind != T_VOID && (kind != T_STRUCT || complete);
        }
    }

    /** A variable, function, enum's name or field. */
    private static final class Thing {
        private final int kind;
        private final int name;
        private final int place;
        private Type type;
        private int address;
        private boolean inFrame;
        private int level;
        private Thing outer;
        private Thing sibling;
        private Thing next;
        // Of a function:
        private Thing variables;
        private Thing lastVariable;
        private int paramCount;
        private Node block;
        private int frameSize;
        private int service;
        private int number;
        private int stub;
        private int firstCall = NONE;

        private Thing(int kind, int name, int place) {
            this.kind = kind;
            this.name = name;
            this.place = place;
        }

        private void addVariable(Thing v) {
            if (lastVariable == null) {
                variables = v;
            } else {
                lastVariable.next = v;
            }
            lastVariable = v;
        }
    }

    /** The tokens of a text, and its names, each of which has one number. */
    private static final class Tokens {
        private static final int HEADS = 512;
        private static final int DISTINCT = 2200;
        private static final String ESCAPES = "ntr0\\'\"";
        private static final String ESCAPED = "\n\t\r\0\\'\"";

        private final byte[] text = new byte[TAPE_BYTES];
        private int length;
        private final int[] kinds = new int[TAPE_BYTES];
        private final int[] places = new int[TAPE_BYTES];
        private final int[] values = new int[TAPE_BYTES];
        private int count;
        private int fault;
        private final byte[] reserved = new byte[WORDS.length()];
        private final byte[] signs = new byte[TAPE_BYTES + 256];
        private int used;
        private final int[] starts = new int[DISTINCT];
        private final int[] lengths = new int[DISTINCT];
        private final int[] chained = new int[DISTINCT];
        private final int[] heads = new int[HEADS];
        private int names;

        private Tokens() {
            for (int i = 0; i < reserved.length; i++) {
                reserved[i] = (byte) WORDS.charAt(i);
            }
        }

        /** Takes all tokens of a text: its fault, or 0. */
        private int take(byte[] tape, int bytes) {
            length = bytes;
            System.arraycopy(tape, 0, text, 0, bytes);
            count = 0;
            fault = 0;
            reserveWords();
            int at = 0;
            for (int i = 0; i <= length && at < length && fault == 0; i++) {
                at = skip(at);
                if (at < length && fault == 0) {
                    at = takeToken(at);
                }
            }
            return fault;
        }

        private int kindAt(int i) {
            return i >= 0 && i < count ? kinds[i] : END;
        }

        private int placeAt(int i) {
            return i >= 0 && i < count ? places[i] : length;
        }

        /** Writes a STRING's signs, as many as it has, and leaves the 0 behind them to the rest of the row. */
        private void copyString(int place, int many, byte[] row, int to) {
            int at = place + 1;
            for (int i = 0; i < many && to + i < row.length; i++) {
                row[to + i] = (byte) signValue(at, '"');
                at += sign(at) == '\\' ? 2 : 1;
            }
        }

        private void reserveWords() {
            Arrays.fill(heads, NONE);
            names = 0;
            used = 0;
            int from = 0;
            for (int i = 0; i < reserved.length; i++) {
                if (reserved[i] == ' ') {
                    number(reserved, from, i);
                    from = i + 1;
                }
            }
        }

        /** The number of the name that stands in a row. */
        private int number(byte[] row, int from, int to) {
            int hash = 0;
            for (int i = from; i < to; i++) {
                hash = hash * 31 + row[i];
            }
            int head = hash & HEADS - 1;
            int n = heads[head];
            for (int i = 0; i < names && n >= 0; i++) {
                if (isName(n, row, from, to)) {
                    return n;
                }
                n = chained[n];
            }
            if (names >= DISTINCT || used + to - from > signs.length) {
                return 0;
            }
            System.arraycopy(row, from, signs, used, to - from);
            starts[names] = used;
            lengths[names] = to - from;
            chained[names] = heads[head];
            heads[head] = names;
            used += to - from;
            names++;
            return names - 1;
        }

        private boolean isName(int n, byte[] row, int from, int to) {
            if (lengths[n] != to - from) {
                return false;
            }
            for (int i = from; i < to; i++) {
                if (signs[starts[n] + i - from] != row[i]) {
                    return false;
                }
            }
            return true;
        }

        private int sign(int at) {
            return at >= 0 && at < length ? text[at] & 255 : NONE;
        }

        private void fail(int place) {
            if (fault == 0) {
                fault = 16 * place + BAD_SIGN;
            }
        }

        private void add(int kind, int place, int value) {
            if (count < TAPE_BYTES) {
                kinds[count] = kind;
                places[count] = place;
                values[count] = value;
                count++;
            }
        }

        private int skip(int from) {
            int at = from;
            for (int i = from; i < length && fault == 0; i++) {
                int c = sign(at);
                if (c == ' ' || c == '\n' || c == '\t' || c == '\r') {
                    at++;
                } else if (c == '/' && sign(at + 1) == '/') {
                    at = lineNoteEnd(at);
                } else if (c == '/' && sign(at + 1) == '*') {
                    at = noteEnd(at);
                } else {
                    return at;
                }
            }
            return at;
        }

        private int lineNoteEnd(int at) {
            for (int i = at + 2; i < length; i++) {
                if (sign(i) == '\n') {
                    return i;
                }
                if (!isByte(sign(i))) {
                    fail(i);
                }
            }
            return length;
        }

        private int noteEnd(int at) {
            for (int i = at + 2; i < length; i++) {
                if (sign(i) == '*' && sign(i + 1) == '/') {
                    return i + 2;
                }
                if (!isByte(sign(i))) {
                    fail(i);
                }
            }
            fail(at);
            return length;
        }

        private int takeToken(int at) {
            int c = sign(at);
            if (isLetter(c)) {
                return takeName(at);
            }
            if (isDigit(c)) {
                return takeNumber(at);
            }
            if (c == '\'') {
                return takeSign(at);
            }
            if (c == '"') {
                return takeString(at);
            }
            return takeOperator(at);
        }

        private int wordEnd(int from) {
            for (int i = from; i < length; i++) {
                if (!isLetter(sign(i)) && !isDigit(sign(i))) {
                    return i;
                }
            }
            return length;
        }

        private int takeName(int at) {
            int end = wordEnd(at);
            if (end - at > NAME_SIGNS) {
                fail(at);
                return end;
            }
            int n = number(text, at, end);
            add(n < WORD_COUNT ? W_INT + n : NAME, at, n);
            return end;
        }

        private int takeNumber(int at) {
            int end = wordEnd(at);
            boolean hex = sign(at) == '0' && sign(at + 1) == 'x';
            int from = hex ? at + 2 : at;
            boolean right = hex ? end > from && end - from <= 8 : sign(at) != '0' || end - at == 1;
            long value = 0;
            for (int i = from; i < end && right; i++) {
                int digit = digitValue(sign(i));
                right = digit >= 0 && (hex || digit < 10);
                value = value * (hex ? 16 : 10) + digit;
                right = right && value <= 4294967295L;
            }
            if (!right) {
                fail(at);
            }
            add(NUMBER, at, (int) value);
            return end;
        }

        private int takeSign(int at) {
            int value = signValue(at + 1, '\'');
            int close = at + (sign(at + 1) == '\\' ? 3 : 2);
            if (value < 0 || sign(close) != '\'') {
                fail(at);
            }
            add(NUMBER, at, value);
            return close + 1;
        }

        private int takeString(int from) {
            int at = from + 1;
            for (int many = 0; many <= STRING_SIGNS; many++) {
                if (sign(at) == '"') {
                    add(STRING, from, many);
                    return at + 1;
                }
                if (signValue(at, '"') < 0) {
                    break;
                }
                at += sign(at) == '\\' ? 2 : 1;
            }
            fail(from);
            return length;
        }

        /** The value of a sign or ESCAPE in quotes; NONE when none stands there. */
        private int signValue(int at, char quote) {
            int c = sign(at);
            if (c == '\\') {
                int n = sign(at + 1) < 0 ? NONE : ESCAPES.indexOf((char) sign(at + 1));
                return n < 0 ? NONE : ESCAPED.charAt(n);
            }
            return c < 32 || c > 126 || c == quote ? NONE : c;
        }

        private int takeOperator(int at) {
            char c = (char) (sign(at) & 255);
            int next = sign(at + 1);
            int plain = PLAIN.indexOf(c);
            if (plain >= 0) {
                add(LPAREN + plain, at, 0);
                return at + 1;
            }
            if (next == c && (c == '<' || c == '>')) {
                int shift = c == '<' ? SHIFT_LEFT : SHIFT_RIGHT;
                boolean assigns = sign(at + 2) == '=';
                add(assigns ? shift + ASSIGN_STEP : shift, at, 0);
                return assigns ? at + 3 : at + 2;
            }
            int pair = pairKind(c, next);
            if (pair != END) {
                add(pair, at, 0);
                return at + 2;
            }
            int single = singleKind(c);
            if (single == END) {
                fail(at);
            }
            add(single, at, 0);
            return at + 1;
        }

        private static int pairKind(char c, int next) {
            if (next == c) {
                switch (c) {
                    case '+': return INCREMENT;
                    case '-': return DECREMENT;
                    case '&': return AND_AND;
                    case '|': return OR_OR;
                    case '=': return EQUAL;
                    default: return END;
                }
            }
            if (c == '-' && next == '>') {
                return ARROW;
            }
            if (next != '=') {
                return END;
            }
            switch (c) {
                case '<': return LESS_EQUAL;
                case '>': return GREATER_EQUAL;
                case '!': return NOT_EQUAL;
                default: return JOINED.indexOf(c) < 0 ? END : PLUS + ASSIGN_STEP + JOINED.indexOf(c);
            }
        }

        private static int singleKind(char c) {
            switch (c) {
                case '<': return LESS;
                case '>': return GREATER;
                case '!': return NOT;
                case '=': return ASSIGN;
                default: return JOINED.indexOf(c) < 0 ? END : PLUS + JOINED.indexOf(c);
            }
        }

        private static boolean isByte(int c) {
            return c == 9 || c == 10 || c == 13 || c >= 32 && c <= 126;
        }

        private static boolean isLetter(int c) {
            return c >= 'a' && c <= 'z' || c >= 'A' && c <= 'Z' || c == '_';
        }

        private static boolean isDigit(int c) {
            return c >= '0' && c <= '9';
        }

        private static int digitValue(int c) {
            if (isDigit(c)) {
                return c - '0';
            }
            if (c >= 'a' && c <= 'f') {
                return c - 'a' + 10;
            }
            return c >= 'A' && c <= 'F' ? c - 'A' + 10 : NONE;
        }
    }

    /** Goes through the FORM of a text and makes its tree. Behind a fault it stands at the END, so that all loops end. */
    private static final class Former {
        // Ten ranks wait at most at each of the 24 nested places.
        private static final int WAITING = 320;

        private final Tokens tokens;
        // The token that is next: which one it is, its kind and its place.
        private int at;
        private int token;
        private int here;
        private int fault;
        private final Node[] lefts = new Node[WAITING];
        private final int[] operators = new int[WAITING];
        private final int[] spots = new int[WAITING];
        private int waiting;

        private Former(Tokens tokens) {
            this.tokens = tokens;
        }

        /** The DECLS of the text, or null. */
        private Node form() {
            fault = 0;
            waiting = 0;
            stand(0);
            Node head = new Node(END, 0);
            Node last = head;
            for (int i = 0; i <= tokens.count && token != END; i++) {
                boolean told = token == W_STRUCT && tokens.kindAt(at + 1) == NAME && tokens.kindAt(at + 2) == LBRACE;
                Node n = told ? structure() : token == W_ENUM ? enumeration() : typed();
                last.next = n;
                last = n;
            }
            return head.next;
        }

        private void stand(int i) {
            at = i;
            boolean within = i >= 0 && i < tokens.count;
            token = within ? tokens.kinds[i] : END;
            here = within ? tokens.places[i] : tokens.length;
        }

        private void advance() {
            stand(at + 1);
        }

        private void fail(int number, int place) {
            if (fault == 0) {
                fault = 16 * place + number;
            }
            at = tokens.count;
            token = END;
            here = tokens.length;
        }

        private void expect(int kind) {
            if (token == kind) {
                advance();
            } else {
                fail(BAD_FORM, here);
            }
        }

        private int takeName() {
            if (token != NAME) {
                fail(BAD_FORM, here);
                return 0;
            }
            int name = tokens.values[at];
            stand(at + 1);
            return name;
        }

        private static boolean beginsType(int kind) {
            return kind >= W_INT && kind <= W_STRUCT;
        }

        private boolean more(int kind) {
            if (token != kind) {
                return false;
            }
            stand(at + 1);
            return true;
        }

        private Node structure() {
            advance();
            Node n = new Node(N_STRUCT, here);
            n.name = takeName();
            expect(LBRACE);
            Node head = new Node(END, 0);
            Node last = head;
            for (int i = 0; i <= tokens.count && (last == head || beginsType(token)); i++) {
                Node type = type();
                Node row = row(type, named(), false);
                last.next = row;
                last = row;
            }
            n.a = head.next;
            expect(RBRACE);
            expect(SEMICOLON);
            return n;
        }

        private Node enumeration() {
            Node n = new Node(N_ENUM, here);
            advance();
            expect(LBRACE);
            Node head = new Node(END, 0);
            Node last = head;
            for (int i = 0; i <= tokens.count && (last == head || more(COMMA)); i++) {
                Node item = new Node(N_ITEM, here);
                item.name = takeName();
                if (more(ASSIGN)) {
                    item.a = choice(0);
                }
                last.next = item;
                last = item;
            }
            n.a = head.next;
            expect(RBRACE);
            expect(SEMICOLON);
            return n;
        }

        private Node type() {
            Node n = new Node(N_TYPE, here);
            n.op = token;
            if (!beginsType(token)) {
                fail(BAD_FORM, here);
            }
            advance();
            if (n.op == W_STRUCT) {
                n.name = takeName();
            }
            return n;
        }

        private int stars() {
            int count = 0;
            for (int i = 0; i <= tokens.count && more(STAR); i++) {
                count++;
            }
            return count;
        }

        /** STARS NAME, of an item, parameter or function. */
        private Node named() {
            int stars = stars();
            Node n = new Node(N_ITEM, here);
            n.value = stars;
            n.name = takeName();
            return n;
        }

        private Node dims() {
            Node head = new Node(END, 0);
            Node last = head;
            for (int i = 0; i <= tokens.count && token == LBRACKET; i++) {
                Node n = new Node(N_DIM, here);
                advance();
                if (token != RBRACKET) {
                    n.a = choice(0);
                }
                expect(RBRACKET);
                last.next = n;
                last = n;
            }
            return head.next;
        }

        /** The rest of a TYPE's items, of which the first one's NAME has been taken, up to the ; behind them. */
        private Node row(Node type, Node first, boolean initialised) {
            Node n = new Node(N_ROW, type.place);
            n.a = type;
            n.b = first;
            Node item = first;
            for (int i = 0; i <= tokens.count && item != null; i++) {
                item.a = dims();
                if (initialised && more(ASSIGN)) {
                    item.b = initial(0);
                }
                item.next = more(COMMA) ? named() : null;
                item = item.next;
            }
            expect(SEMICOLON);
            return n;
        }

        private Node initial(int depth) {
            if (token != LBRACE) {
                return assignment(depth);
            }
            Node n = new Node(N_BRACES, here);
            deepen(depth, here);
            advance();
            Node head = new Node(END, 0);
            Node last = head;
            for (int i = 0; i <= tokens.count && (last == head || more(COMMA)); i++) {
                Node part = initial(depth + 1);
                last.next = part;
                last = part;
            }
            n.a = head.next;
            expect(RBRACE);
            return n;
        }

        /** ITEMS of a TYPE, or a function. */
        private Node typed() {
            Node type = type();
            Node item = named();
            if (token != LPAREN) {
                return row(type, item, true);
            }
            Node n = new Node(N_FUNCTION, item.place);
            n.name = item.name;
            n.value = item.value;
            n.a = type;
            advance();
            if (token == W_VOID && tokens.kindAt(at + 1) == RPAREN) {
                advance();
            } else if (token != RPAREN) {
                n.b = params();
            }
            expect(RPAREN);
            if (token == LBRACE) {
                n.c = new Node(N_BLOCK, here);
                n.c.a = rows(2, false);
            } else {
                expect(SEMICOLON);
            }
            return n;
        }

        private Node params() {
            Node head = new Node(END, 0);
            Node last = head;
            for (int i = 0; i <= tokens.count && (last == head || more(COMMA)); i++) {
                Node type = type();
                Node param = named();
                param.a = dims();
                param.c = type;
                last.next = param;
                last = param;
            }
            return head.next;
        }

        /** What stands in the { } of a BLOCK or, with labels, of a switch. */
        private Node rows(int depth, boolean labels) {
            expect(LBRACE);
            Node head = new Node(END, 0);
            Node last = head;
            for (int i = 0; i <= tokens.count && token != RBRACE && token != END; i++) {
                Node n;
                if (labels && (token == W_CASE || token == W_DEFAULT)) {
                    n = label();
                } else {
                    n = beginsType(token) ? row(type(), named(), true) : statement(depth);
                }
                last.next = n;
                last = n;
            }
            expect(RBRACE);
            return head.next;
        }

        private Node label() {
            Node n = new Node(token == W_CASE ? N_CASE : N_DEFAULT, here);
            advance();
            if (n.kind == N_CASE) {
                n.a = choice(0);
            }
            expect(COLON);
            return n;
        }

        private Node statement(int depth) {
            // The text's end is no token that could stand where an S would begin.
            if (depth > MOST_NEST && token != END) {
                fail(LIMIT, here);
            }
            switch (token) {
                case LBRACE:
                    Node block = new Node(N_BLOCK, here);
                    block.a = rows(depth + 1, false);
                    return block;
                case W_SWITCH:
                    Node chosen = word(N_SWITCH);
                    chosen.a = condition();
                    chosen.b = rows(depth + 1, true);
                    return chosen;
                case SEMICOLON: return word(N_EMPTY);
                case W_IF: return ifStatement(depth);
                case W_WHILE: return whileStatement(depth);
                case W_DO: return doStatement(depth);
                case W_FOR: return forStatement(depth);
                case W_BREAK: return closed(word(N_BREAK));
                case W_CONTINUE: return closed(word(N_CONTINUE));
                case W_RETURN: return returnStatement();
                default: return expressionStatement();
            }
        }

        private Node word(int kind) {
            Node n = new Node(kind, here);
            advance();
            return n;
        }

        private Node closed(Node n) {
            expect(SEMICOLON);
            return n;
        }

        private Node expressionStatement() {
            Node n = new Node(N_EXPRESSION, here);
            n.a = expression(0);
            return closed(n);
        }

        private Node returnStatement() {
            Node n = word(N_RETURN);
            if (token != SEMICOLON) {
                n.a = expression(0);
            }
            return closed(n);
        }

        private Node condition() {
            expect(LPAREN);
            Node e = expression(0);
            expect(RPAREN);
            return e;
        }

        private Node ifStatement(int depth) {
            Node n = word(N_IF);
            n.a = condition();
            n.b = statement(depth + 1);
            if (more(W_ELSE)) {
                n.c = statement(depth + 1);
            }
            return n;
        }

        private Node whileStatement(int depth) {
            Node n = word(N_WHILE);
            n.a = condition();
            n.b = statement(depth + 1);
            return n;
        }

        private Node doStatement(int depth) {
            Node n = word(N_DO);
            n.b = statement(depth + 1);
            expect(W_WHILE);
            n.a = condition();
            return closed(n);
        }

        private Node forStatement(int depth) {
            Node n = word(N_FOR);
            expect(LPAREN);
            if (beginsType(token)) {
                n.d = row(type(), named(), true);
            } else if (token == SEMICOLON) {
                advance();
            } else {
                n.d = expressionStatement();
            }
            if (token != SEMICOLON) {
                n.a = expression(0);
            }
            expect(SEMICOLON);
            if (token != RPAREN) {
                n.c = expression(0);
            }
            expect(RPAREN);
            n.b = statement(depth + 1);
            return n;
        }

        /** What begins at a place is one of those of which at most 24 stand within one another. */
        private void deepen(int depth, int place) {
            if (depth >= MOST_NEST) {
                fail(LIMIT, place);
            }
        }

        private Node high(Node n, int height) {
            n.height = height + 1;
            if (n.height > MOST_HEIGHT) {
                fail(LIMIT, n.place);
            }
            return n;
        }

        private Node single(int kind, int place, Node a) {
            Node n = new Node(kind, place);
            n.a = a;
            return high(n, a.height);
        }

        private Node pair(int kind, int place, Node a, Node b) {
            Node n = new Node(kind, place);
            n.a = a;
            n.b = b;
            n.height = Math.max(a.height, b.height) + 1;
            if (n.height > MOST_HEIGHT) {
                fail(LIMIT, place);
            }
            return n;
        }

        /** E. */
        private Node expression(int depth) {
            Node n = assignment(depth);
            for (int i = 0; i <= tokens.count && token == COMMA; i++) {
                int place = here;
                advance();
                n = pair(N_COMMA, place, n, assignment(depth));
            }
            return n;
        }

        /** E2. Its op is the operator ahead of the =, or END. */
        private Node assignment(int depth) {
            Node left = choice(depth);
            int kind = token;
            boolean joined = kind >= PLUS + ASSIGN_STEP && kind < ASSIGN;
            if (kind != ASSIGN && !joined) {
                return left;
            }
            int place = here;
            deepen(depth, place);
            advance();
            Node n = pair(N_ASSIGN, place, left, fault == 0 ? assignment(depth + 1) : left);
            n.op = joined ? kind - ASSIGN_STEP : END;
            return n;
        }

        /** E3. */
        private Node choice(int depth) {
            Node first = binary(depth);
            if (token != QUESTION) {
                return first;
            }
            Node n = new Node(N_CHOICE, here);
            n.a = first;
            deepen(depth, here);
            advance();
            n.b = fault == 0 ? expression(depth + 1) : first;
            // The part behind the : stands no deeper than the one behind the ?, which has been looked at.
            expect(COLON);
            n.c = fault == 0 ? choice(depth + 1) : first;
            return high(n, Math.max(first.height, Math.max(n.b.height, n.c.height)));
        }

        private static int rank(int kind) {
            switch (kind) {
                case OR_OR: return 1;
                case AND_AND: return 2;
                case BAR: return 3;
                case CARET: return 4;
                case AMPERSAND: return 5;
                case EQUAL: case NOT_EQUAL: return 6;
                case LESS: case GREATER: case LESS_EQUAL: case GREATER_EQUAL: return 7;
                case SHIFT_LEFT: case SHIFT_RIGHT: return 8;
                case PLUS: case MINUS: return 9;
                case STAR: case SLASH: case PERCENT: return 10;
                default: return 0;
            }
        }

        /** BINARY. The left sides wait in a row of their own, since ten ranks of calls would stand too deep. */
        private Node binary(int depth) {
            int base = waiting;
            Node n = unary(depth);
            for (int i = 0; i <= tokens.count && rank(token) > 0; i++) {
                int op = token;
                int place = here;
                n = join(base, rank(op), n);
                if (fault != 0 || waiting >= WAITING) {
                    break;
                }
                lefts[waiting] = n;
                operators[waiting] = op;
                spots[waiting] = place;
                waiting++;
                advance();
                n = unary(depth);
            }
            return join(base, 1, n);
        }

        /** Gives a right side to all that wait for it, from a base on, with at least a rank. */
        private Node join(int base, int rank, Node right) {
            Node n = right;
            for (int i = waiting - 1; i >= base && rank(operators[i]) >= rank; i--) {
                boolean logic = operators[i] == AND_AND || operators[i] == OR_OR;
                n = pair(logic ? N_LOGIC : N_BINARY, spots[i], lefts[i], n);
                n.op = operators[i];
                waiting = i;
            }
            return n;
        }

        private static int unaryKind(int kind) {
            switch (kind) {
                case MINUS: case TILDE: case NOT: return N_UNARY;
                case AMPERSAND: return N_ADDRESS;
                case STAR: return N_POINTED;
                case INCREMENT: case DECREMENT: return N_BEFORE;
                case W_SIZEOF: return N_SIZEOF;
                default: return END;
            }
        }

        private boolean typeInParens() {
            return token == LPAREN && beginsType(tokens.kindAt(at + 1));
        }

        private Node unary(int depth) {
            int op = token;
            int place = here;
            int kind = typeInParens() ? N_CAST : unaryKind(op);
            if (kind == END) {
                return postfix(primary(depth), depth);
            }
            deepen(depth, place);
            if (kind != N_CAST) {
                advance();
            }
            Node type = null;
            if (kind == N_CAST || kind == N_SIZEOF && typeInParens()) {
                advance();
                type = type();
                type.value = stars();
                expect(RPAREN);
            }
            if (kind == N_SIZEOF && type != null) {
                Node n = new Node(N_SIZEOF, place);
                n.c = type;
                return high(n, 0);
            }
            Node n = fault == 0 ? single(kind, place, unary(depth + 1)) : new Node(kind, place);
            n.op = op;
            n.c = type;
            return n;
        }

        /** What stands behind a PRIMARY. */
        private Node postfix(Node primary, int depth) {
            Node n = primary;
            for (int i = 0; i <= tokens.count; i++) {
                int kind = token;
                int place = here;
                if (kind == LBRACKET) {
                    deepen(depth, place);
                    advance();
                    Node index = fault == 0 ? expression(depth + 1) : n;
                    expect(RBRACKET);
                    n = pair(N_INDEX, place, n, index);
                } else if (kind == DOT || kind == ARROW) {
                    advance();
                    int spot = here;
                    int name = takeName();
                    n = single(kind == DOT ? N_FIELD : N_ARROW, place, n);
                    n.spot = spot;
                    n.name = name;
                } else if (kind == INCREMENT || kind == DECREMENT) {
                    advance();
                    n = single(N_AFTER, place, n);
                    n.op = kind;
                } else {
                    break;
                }
            }
            return n;
        }

        private Node primary(int depth) {
            switch (token) {
                case NUMBER: return number(N_NUMBER);
                case STRING: return number(N_STRING);
                case NAME: return tokens.kindAt(at + 1) == LPAREN ? call(depth) : name();
                case LPAREN:
                    deepen(depth, here);
                    advance();
                    Node inner = fault == 0 ? expression(depth + 1) : new Node(N_NUMBER, 0);
                    expect(RPAREN);
                    return inner;
                default:
                    fail(BAD_FORM, here);
                    return new Node(N_NUMBER, 0);
            }
        }

        /** A NUMBER, or a STRING with its length. */
        private Node number(int kind) {
            Node n = new Node(kind, here);
            n.value = at < tokens.count ? tokens.values[at] : 0;
            advance();
            return n;
        }

        private Node name() {
            Node n = new Node(N_NAME, here);
            n.name = takeName();
            return n;
        }

        private Node call(int depth) {
            Node n = new Node(N_CALL, tokens.placeAt(at + 1));
            n.spot = here;
            n.name = takeName();
            deepen(depth, here);
            advance();
            Node head = new Node(END, 0);
            Node last = head;
            int height = 0;
            boolean none = token == RPAREN || fault != 0;
            for (int i = 0; i <= tokens.count && !none && (last == head || more(COMMA)); i++) {
                Node argument = assignment(depth + 1);
                height = Math.max(height, argument.height);
                last.next = argument;
                last = argument;
            }
            n.a = head.next;
            n.close = here;
            expect(RPAREN);
            return high(n, height);
        }
    }

    /** What a text tells: its types, names, things, structs and DATA. */
    private static final class Program {
        private static final int STRETCHES = 32;

        private final Thing[] things = new Thing[MOST_NAMES];
        private int thingCount;
        private final Type[] structs = new Type[MOST_NAMES];
        private int structCount;
        private final byte[] data = new byte[MOST_DATA];
        private int textEnd = FIRST_ADDRESS;
        private int dataEnd;
        private Thing main;
        private int fault;
        private final Thing[] known = new Thing[Tokens.DISTINCT];
        private final Thing[] newest = new Thing[STRETCHES];
        private int level;
        private int nameCount;
        private Type intType;
        private Type charType;
        private Type unsignedType;
        private Type voidType;
        private Type structTypes;

        private void clear() {
            for (int i = FIRST_ADDRESS; i < textEnd && i < MOST_DATA; i++) {
                data[i] = 0;
            }
            thingCount = 0;
            structCount = 0;
            textEnd = FIRST_ADDRESS;
            dataEnd = 0;
            main = null;
            fault = 0;
            forgetNames();
            nameCount = 0;
            intType = new Type(T_INT, null, 0, 4, 4);
            charType = new Type(T_CHAR, null, 0, 1, 1);
            unsignedType = new Type(T_UNSIGNED, null, 0, 4, 4);
            voidType = new Type(T_VOID, null, 0, 0, 1);
            structTypes = null;
            addService(NAME_GET, ASK_GET, intType, false);
            addService(NAME_PUT, ASK_PUT, voidType, true);
            addService(NAME_HALT, ASK_HALT, voidType, true);
        }

        /** A text with a fault leaves stretches open. */
        private void forgetNames() {
            for (int i = level; i >= 0; i--) {
                level = i;
                leave();
            }
            newest[0] = null;
        }

        private void addService(int name, int service, Type type, boolean takesInt) {
            Thing f = new Thing(FUNCTION, name, NONE);
            f.service = service;
            f.type = type;
            if (takesInt) {
                Thing param = new Thing(VARIABLE, name, NONE);
                param.type = intType;
                f.addVariable(param);
                f.paramCount = 1;
            }
            bind(f);
        }

        /** Tells a fault, if it is the first one. The number 0 is none. */
        private void fail(int number, int place) {
            if (fault == 0 && number != 0) {
                fault = 16 * place + number;
            }
        }

        private Type pointerTo(Type base) {
            if (base.pointer == null) {
                base.pointer = new Type(T_POINTER, base, 0, 4, 4);
            }
            return base.pointer;
        }

        private Type arrayOf(Type base, int count) {
            for (Type t = base.arrays; t != null; t = t.nextArray) {
                if (t.count == count) {
                    return t;
                }
            }
            // Sizes beyond the limit are alike: a fault comes of each.
            int size = (int) Math.min((long) base.size * count, MOST_SIZE + 1);
            Type t = new Type(T_ARRAY, base, count, size, base.align);
            if (base.pointer == null) {
                base.pointer = new Type(T_POINTER, base, 0, 4, 4);
            }
            t.nextArray = base.arrays;
            base.arrays = t;
            return t;
        }

        private Type structNamed(int name) {
            for (Type t = structTypes; t != null; t = t.nextStruct) {
                if (t.name == name) {
                    return t;
                }
            }
            Type t = new Type(T_STRUCT, null, 0, 0, 1);
            t.name = name;
            t.nextStruct = structTypes;
            structTypes = t;
            return t;
        }

        /** The type that a TYPE and STARS tell. */
        private Type typeOf(Node n, int stars) {
            Type t = intType;
            if (n != null && n.op == W_STRUCT) {
                t = structNamed(n.name);
            } else if (n != null && n.op != W_INT) {
                t = n.op == W_CHAR ? charType : n.op == W_UNSIGNED ? unsignedType : voidType;
            }
            for (int i = 0; i < stars; i++) {
                t = pointerTo(t);
            }
            return t;
        }

        /** The type of an E's value. */
        private Type valueType(Node n) {
            if (n.type == null || n.type.kind == T_CHAR) {
                return intType;
            }
            if (n.type.kind == T_ARRAY && n.type.base != null) {
                return n.type.base.pointer;
            }
            return n.type;
        }

        private void enter() {
            if (level < STRETCHES - 1) {
                level++;
            }
            newest[level] = null;
        }

        private void leave() {
            for (Thing t = newest[level]; t != null; t = t.sibling) {
                known[t.name] = t.outer;
            }
            level = Math.max(level - 1, 0);
        }

        private Thing find(int name) {
            return name >= 0 && name < known.length ? known[name] : null;
        }

        private void bind(Thing t) {
            t.level = level;
            t.outer = known[t.name];
            t.sibling = newest[level];
            known[t.name] = t;
            newest[level] = t;
        }

        private void countName(int place) {
            nameCount++;
            if (nameCount > MOST_NAMES) {
                fail(LIMIT, place);
            }
        }

        private void declare(Thing t) {
            Thing before = find(t.name);
            if (before != null && before.level == level) {
                fail(TWICE, t.place);
            }
            countName(t.place);
            if (fault == 0) {
                bind(t);
            }
        }

        private void addThing(Thing t) {
            if (thingCount < things.length) {
                t.number = thingCount;
                things[thingCount] = t;
                thingCount++;
            }
        }

        private void completeStruct(Type s) {
            s.size = aligned(s.size, s.align);
            s.complete = true;
            if (structCount < structs.length) {
                structs[structCount] = s;
                structCount++;
            }
        }

        private static int aligned(int place, int align) {
            return align < 4 ? place : place + 3 & ~3;
        }

        private void store(int address, int value, int bytes) {
            for (int i = 0; i < bytes; i++) {
                if (address >= 0 && address + i < MOST_DATA) {
                    data[address + i] = (byte) (value >> 8 * i);
                }
            }
        }
    }

    /** The MEANING of E's: their names and types, and the values of the constant ones. */
    private static final class Typing {
        private final Program program;
        private Node strings;
        private Node lastString;

        private Typing(Program program) {
            this.program = program;
        }

        /** Whether an E's value can be handed to a type. */
        private boolean fits(Node n, Type to) {
            Type from = program.valueType(n);
            if (to.kind == T_POINTER) {
                return from.kind == T_POINTER
                    ? from == to || from.base == program.voidType || to.base == program.voidType
                    : isNull(n);
            }
            return to.isArithmetic() && from.isArithmetic();
        }

        private boolean isNull(Node n) {
            return n.constant && n.type == program.intType && n.value == 0;
        }

        /** Goes through an E: whether there is no fault. How deep it goes is kept low by the HEIGHT, which the FORM looked at. */
        private boolean check(Node n) {
            if (n == null || program.fault != 0) {
                return program.fault == 0;
            }
            switch (n.kind) {
                case N_NUMBER:
                    constant(n, n.value < 0 ? program.unsignedType : program.intType, n.value);
                    break;
                case N_STRING: visitString(n); break;
                case N_NAME: visitName(n); break;
                case N_CALL: visitCall(n); break;
                case N_SIZEOF: visitSizeof(n); break;
                case N_CHOICE: visitChoice(n); break;
                default: visitOperator(n);
            }
            return program.fault == 0;
        }

        private static void constant(Node n, Type type, int value) {
            n.constant = true;
            n.type = type;
            n.value = value;
        }

        private static void variable(Node n, Type type) {
            n.variable = true;
            n.type = type;
        }

        private void visitString(Node n) {
            n.type = program.arrayOf(program.charType, n.value + 1);
            if (lastString == null) {
                strings = n;
            } else {
                lastString.d = n;
            }
            lastString = n;
        }

        private void visitName(Node n) {
            Thing t = program.find(n.name);
            if (t == null) {
                program.fail(NOT_KNOWN, n.place);
            } else if (t.kind == FUNCTION) {
                program.fail(BAD_TYPE, n.place);
            } else if (t.kind == ENUM_NAME) {
                constant(n, program.intType, t.address);
            } else {
                n.thing = t;
                variable(n, t.type);
            }
        }

        private void visitCall(Node n) {
            Thing f = program.find(n.name);
            if (f == null || f.kind != FUNCTION) {
                program.fail(f == null ? NOT_KNOWN : BAD_TYPE, n.spot);
                return;
            }
            n.thing = f;
            // CALLS are met in the order of their NAMES.
            if (f.firstCall == NONE) {
                f.firstCall = n.spot;
            }
            Thing param = f.variables;
            int count = 0;
            for (Node argument = n.a; argument != null; argument = argument.next) {
                if (!check(argument)) {
                    return;
                }
                count++;
                if (count > f.paramCount || param == null) {
                    program.fail(BAD_ARGUMENTS, argument.place);
                    return;
                }
                if (!fits(argument, param.type)) {
                    program.fail(BAD_TYPE, argument.place);
                    return;
                }
                param = param.next;
            }
            if (count < f.paramCount) {
                program.fail(BAD_ARGUMENTS, n.close);
            }
            n.type = f.type.kind == T_CHAR ? program.intType : f.type;
        }

        private void visitSizeof(Node n) {
            if (!check(n.a)) {
                return;
            }
            Type type = n.a == null ? program.typeOf(n.c, n.c == null ? 0 : n.c.value) : n.a.type;
            if (type == null || !type.isWhole()) {
                program.fail(OUT_OF_PLACE, n.place);
            } else {
                constant(n, program.intType, type.size);
            }
        }

        private void visitChoice(Node n) {
            if (check(n.a) && !program.valueType(n.a).isScalar()) {
                program.fail(BAD_TYPE, n.place);
            }
            if (!check(n.b) || !check(n.c)) {
                return;
            }
            Type type = chosenType(n.b, n.c);
            if (type == null) {
                program.fail(BAD_TYPE, n.place);
                return;
            }
            n.type = type;
            if (n.a.constant && n.b.constant && n.c.constant) {
                constant(n, type, n.a.value != 0 ? n.b.value : n.c.value);
            }
        }

        private Type chosenType(Node b, Node c) {
            Type left = program.valueType(b);
            Type right = program.valueType(c);
            if (left.isArithmetic() && right.isArithmetic()) {
                return both(left, right);
            }
            if (left == right) {
                return left.kind == T_VOID || left.kind == T_POINTER ? left : null;
            }
            if (left.kind == T_POINTER && isNull(c)) {
                return left;
            }
            if (right.kind == T_POINTER && isNull(b)) {
                return right;
            }
            if (left.kind != T_POINTER || right.kind != T_POINTER) {
                return null;
            }
            if (left.base == program.voidType) {
                return left;
            }
            return right.base == program.voidType ? right : null;
        }

        private Type both(Type left, Type right) {
            return left.kind == T_UNSIGNED || right.kind == T_UNSIGNED ? program.unsignedType : program.intType;
        }

        /** An operator, behind its parts. Each kind's method answers the fault at the operator, or 0. */
        private void visitOperator(Node n) {
            if (!check(n.a) || !check(n.b) || n.a == null) {
                return;
            }
            int fault = 0;
            switch (n.kind) {
                case N_INDEX: fault = index(n); break;
                case N_FIELD:
                case N_ARROW: fault = field(n); break;
                case N_BEFORE:
                case N_AFTER: fault = step(n); break;
                case N_UNARY: fault = unary(n); break;
                case N_ADDRESS:
                    n.type = n.a.variable ? program.pointerTo(n.a.type) : null;
                    fault = n.a.variable ? 0 : NO_VARIABLE;
                    break;
                case N_POINTED: fault = pointed(n); break;
                case N_CAST: fault = castTo(n, program.typeOf(n.c, n.c == null ? 0 : n.c.value)); break;
                case N_BINARY: fault = binary(n); break;
                case N_LOGIC: fault = logic(n); break;
                case N_ASSIGN: fault = assign(n); break;
                default: n.type = program.valueType(n.b);
            }
            program.fail(fault, n.place);
        }

        /** The fault of a pointer that can't be MOVED; 0 of one that can. */
        private static int fixed(Type pointer) {
            if (pointer.base == null || pointer.base.kind == T_VOID) {
                return BAD_TYPE;
            }
            return pointer.base.kind != T_STRUCT || pointer.base.complete ? 0 : OUT_OF_PLACE;
        }

        private int index(Node n) {
            Type type = program.valueType(n.a);
            if (type.kind != T_POINTER || !program.valueType(n.b).isArithmetic()) {
                return BAD_TYPE;
            }
            variable(n, type.base);
            return fixed(type);
        }

        private int pointed(Node n) {
            Type type = program.valueType(n.a);
            if (type.kind != T_POINTER) {
                return BAD_TYPE;
            }
            variable(n, type.base);
            return fixed(type);
        }

        private int field(Node n) {
            Type type = n.a.variable ? n.a.type : null;
            if (n.kind == N_ARROW) {
                Type pointer = program.valueType(n.a);
                type = pointer.kind == T_POINTER ? pointer.base : null;
            }
            if (type == null || type.kind != T_STRUCT) {
                return BAD_TYPE;
            }
            if (!type.complete) {
                return OUT_OF_PLACE;
            }
            n.thing = fieldNamed(type, n.name);
            if (n.thing == null) {
                program.fail(NOT_KNOWN, n.spot);
                return NOT_KNOWN;
            }
            variable(n, n.thing.type);
            return 0;
        }

        private static Thing fieldNamed(Type s, int name) {
            for (Thing f = s.fields; f != null; f = f.next) {
                if (f.name == name) {
                    return f;
                }
            }
            return null;
        }

        private int step(Node n) {
            Type type = n.a.type;
            if (!n.a.variable) {
                return NO_VARIABLE;
            }
            if (type == null || !type.isScalar()) {
                return BAD_TYPE;
            }
            n.type = program.valueType(n.a);
            return type.kind == T_POINTER ? fixed(type) : 0;
        }

        private int unary(Node n) {
            Type type = program.valueType(n.a);
            if (n.op == NOT ? !type.isScalar() : !type.isArithmetic()) {
                return BAD_TYPE;
            }
            n.type = n.op == NOT ? program.intType : type;
            if (n.a.constant) {
                int value = n.a.value;
                constant(n, n.type, n.op == MINUS ? -value : n.op == TILDE ? ~value : value == 0 ? 1 : 0);
            }
            return 0;
        }

        private int castTo(Node n, Type to) {
            n.op = to.kind;
            n.type = to.kind == T_CHAR ? program.intType : to;
            if (to.kind == T_VOID) {
                return 0;
            }
            if (!to.isScalar() || !program.valueType(n.a).isScalar()) {
                return BAD_TYPE;
            }
            if (n.a.constant && to.isArithmetic()) {
                constant(n, n.type, to.kind == T_CHAR ? n.a.value & 255 : n.a.value);
            }
            return 0;
        }

        private int logic(Node n) {
            if (!program.valueType(n.a).isScalar() || !program.valueType(n.b).isScalar()) {
                return BAD_TYPE;
            }
            n.type = program.intType;
            if (n.a.constant && n.b.constant) {
                boolean left = n.a.value != 0;
                boolean right = n.b.value != 0;
                constant(n, n.type, (n.op == AND_AND ? left && right : left || right) ? 1 : 0);
            }
            return 0;
        }

        private int binary(Node n) {
            Type left = program.valueType(n.a);
            Type right = program.valueType(n.b);
            boolean compares = n.op >= LESS && n.op <= NOT_EQUAL;
            if (left.isArithmetic() && right.isArithmetic()) {
                boolean shifts = n.op == SHIFT_LEFT || n.op == SHIFT_RIGHT;
                Type type = shifts ? left : both(left, right);
                n.type = compares ? program.intType : type;
                return n.a.constant && n.b.constant ? fold(n, type.kind == T_UNSIGNED) : 0;
            }
            if (!compares) {
                return move(n, left, right);
            }
            n.type = program.intType;
            if (n.op != EQUAL && n.op != NOT_EQUAL) {
                return left.kind == T_POINTER && left == right ? 0 : BAD_TYPE;
            }
            boolean fit = left.kind == T_POINTER && fits(n.b, left) || right.kind == T_POINTER && fits(n.a, right);
            return fit ? 0 : BAD_TYPE;
        }

        /** + and - of pointers. */
        private int move(Node n, Type left, Type right) {
            if ((n.op == PLUS || n.op == MINUS) && left.kind == T_POINTER && right.isArithmetic()) {
                n.type = left;
                return fixed(left);
            }
            if (n.op == PLUS && left.isArithmetic() && right.kind == T_POINTER) {
                n.type = right;
                return fixed(right);
            }
            if (n.op == MINUS && left.kind == T_POINTER && left == right) {
                n.type = program.intType;
                return fixed(left);
            }
            return BAD_TYPE;
        }

        private int fold(Node n, boolean unsigned) {
            int a = n.a.value;
            int b = n.b.value;
            if ((n.op == SLASH || n.op == PERCENT) && b == 0) {
                return NO_CONSTANT;
            }
            long left = unsigned ? a & 0xffffffffL : a;
            long right = unsigned ? b & 0xffffffffL : b;
            constant(n, n.type, folded(n.op, left, right, b & 31));
            return 0;
        }

        private static int folded(int op, long left, long right, int shift) {
            switch (op) {
                case PLUS: return (int) (left + right);
                case MINUS: return (int) (left - right);
                case STAR: return (int) (left * right);
                case SLASH: return right == 0 ? 0 : (int) (left / right);
                case PERCENT: return right == 0 ? 0 : (int) (left % right);
                case AMPERSAND: return (int) (left & right);
                case BAR: return (int) (left | right);
                case CARET: return (int) (left ^ right);
                case SHIFT_LEFT: return (int) (left << shift);
                case SHIFT_RIGHT: return (int) (left >> shift);
                case LESS: return left < right ? 1 : 0;
                case GREATER: return left > right ? 1 : 0;
                case LESS_EQUAL: return left <= right ? 1 : 0;
                case GREATER_EQUAL: return left >= right ? 1 : 0;
                case EQUAL: return left == right ? 1 : 0;
                default: return left != right ? 1 : 0;
            }
        }

        private int assign(Node n) {
            Type left = n.a.type;
            Type right = program.valueType(n.b);
            if (!n.a.variable || left == null) {
                return NO_VARIABLE;
            }
            if (n.op == END && left.kind == T_STRUCT) {
                n.type = program.voidType;
                return left != right ? BAD_TYPE : left.size > MOST_COPIED ? LIMIT : 0;
            }
            n.type = program.valueType(n.a);
            if (n.op == END) {
                return left.isScalar() && fits(n.b, left) ? 0 : BAD_TYPE;
            }
            if (left.isArithmetic() && right.isArithmetic()) {
                return 0;
            }
            boolean moves = (n.op == PLUS || n.op == MINUS) && left.kind == T_POINTER && right.isArithmetic();
            return moves ? fixed(left) : BAD_TYPE;
        }
    }

    /** The MEANING of declarations and S's, and the END. */
    private static final class Meaning {
        private final Program program;
        private final Tokens tokens;
        private final Typing typing;
        private final int[] counts = new int[TAPE_BYTES / 2];
        private int functions;
        private Thing function;
        private int frameEnd;
        private int loops;
        private int breakables;

        private Meaning(Program program, Tokens tokens) {
            this.program = program;
            this.tokens = tokens;
            this.typing = new Typing(program);
        }

        /** Tells the meaning of a text's DECLS: its fault, or 0. */
        private int tell(Node text) {
            program.clear();
            typing.strings = null;
            typing.lastString = null;
            functions = 0;
            loops = 0;
            breakables = 0;
            for (Node n = text; n != null && right(); n = n.next) {
                switch (n.kind) {
                    case N_STRUCT: tellStruct(n); break;
                    case N_ENUM: tellEnum(n); break;
                    case N_FUNCTION:
                        Thing f = tellFunction(n);
                        if (f != null && n.c != null) {
                            tellBody(f, n.c);
                        }
                        break;
                    default:
                        for (Node item = n.b; item != null && right(); item = item.next) {
                            tellTextItem(n.a, item);
                        }
                }
            }
            if (right()) {
                tellEnd();
            }
            return program.fault;
        }

        private boolean right() {
            return program.fault == 0;
        }

        private void fail(int number, Node n) {
            program.fail(number, n.place);
        }

        private void tellStruct(Node n) {
            Type s = program.structNamed(n.name);
            if (s.told) {
                fail(TWICE, n);
            }
            program.countName(n.place);
            s.told = true;
            for (Node row = n.a; row != null && right(); row = row.next) {
                for (Node item = row.b; item != null && right(); item = item.next) {
                    tellField(s, row.a, item);
                }
            }
            if (right()) {
                program.completeStruct(s);
            }
        }

        private void tellField(Type s, Node typeNode, Node item) {
            Type type = program.typeOf(typeNode, item.value);
            int dims = measure(type, item, false);
            if (!right()) {
                return;
            }
            type = shaped(type, 0, dims);
            Thing f = new Thing(FIELD, item.name, item.place);
            f.type = type;
            f.address = Program.aligned(s.size, type.align);
            if (f.address + type.size > MOST_SIZE) {
                fail(LIMIT, item);
            }
            if (Typing.fieldNamed(s, item.name) != null) {
                fail(TWICE, item);
            }
            program.countName(item.place);
            s.size = f.address + type.size;
            s.align = Math.max(s.align, type.align);
            if (s.lastField == null) {
                s.fields = f;
            } else {
                s.lastField.next = f;
            }
            s.lastField = f;
        }

        private void tellEnum(Node n) {
            int value = 0;
            for (Node item = n.a; item != null && right(); item = item.next) {
                if (item.a != null) {
                    if (typing.check(item.a) && !item.a.constant) {
                        fail(NO_CONSTANT, item.a);
                    }
                    value = item.a.value;
                }
                Thing t = new Thing(ENUM_NAME, item.name, item.place);
                t.address = value;
                program.declare(t);
                program.addThing(t);
                value++;
            }
        }

        /**
         * Goes through DIMS into counts: how many there are. What the type is without them is looked at first.
         */
        private int measure(Type type, Node item, boolean mayBeEmpty) {
            if (!type.isWhole()) {
                fail(OUT_OF_PLACE, item);
            }
            int k = 0;
            for (Node dim = item.a; dim != null && right() && k < counts.length; dim = dim.next) {
                counts[k] = 0;
                if (dim.a == null) {
                    if (k > 0 || !mayBeEmpty) {
                        fail(OUT_OF_PLACE, dim);
                    }
                } else if (typing.check(dim.a)) {
                    int count = dim.a.value;
                    // One above 2147483647 is less than 1 here, and wrong as well.
                    if (!dim.a.constant || count < 1 || count > MOST_SIZE) {
                        fail(NO_CONSTANT, dim.a);
                    }
                    counts[k] = count;
                }
                k++;
            }
            return k;
        }

        private Type shaped(Type element, int from, int to) {
            Type t = element;
            for (int k = to - 1; k >= from && k < counts.length; k--) {
                t = program.arrayOf(t, counts[k]);
            }
            return t;
        }

        private void tellTextItem(Node typeNode, Node item) {
            Type type = program.typeOf(typeNode, item.value);
            int dims = measure(type, item, item.b != null);
            if (!right()) {
                return;
            }
            boolean open = item.a != null && item.a.a == null;
            type = shaped(type, open ? 1 : 0, dims);
            if (type.size > MOST_SIZE) {
                fail(LIMIT, item);
            }
            Thing t = new Thing(VARIABLE, item.name, item.place);
            program.declare(t);
            if (open && item.b != null) {
                type = program.arrayOf(type, countOfForm(item.b));
            }
            t.type = type;
            t.address = Program.aligned(program.textEnd, type.align);
            if (type.size > MOST_SIZE || t.address + type.size > MOST_DATA) {
                fail(LIMIT, item);
            }
            if (!right()) {
                return;
            }
            program.textEnd = t.address + type.size;
            program.addThing(t);
            if (item.b != null) {
                fill(type, item.b, t.address);
            }
        }

        /** How many elements an INIT's form tells of. */
        private static int countOfForm(Node initial) {
            if (initial.kind == N_STRING) {
                return initial.value + 1;
            }
            int count = 0;
            if (initial.kind == N_BRACES) {
                for (Node part = initial.a; part != null; part = part.next) {
                    count++;
                }
            }
            return count;
        }

        /** The INIT of a variable of the text, or of a part of it, goes into DATA. Its depth is one of the FORM's LIMITS. */
        private void fill(Type type, Node initial, int address) {
            if (initial.kind == N_BRACES) {
                if (type.isScalar()) {
                    fail(BAD_TYPE, initial);
                } else if (type.kind == T_ARRAY) {
                    fillArray(type, initial, address);
                } else {
                    fillStruct(type, initial, address);
                }
            } else if (type.kind == T_ARRAY && type.base == program.charType && initial.kind == N_STRING) {
                if (initial.value + 1 > type.count) {
                    fail(BAD_TYPE, initial);
                } else {
                    tokens.copyString(initial.place, initial.value, program.data, address);
                }
            } else if (!type.isScalar()) {
                // Wrong as such: the document tells of an E2's own faults for scalar types alone.
                fail(BAD_TYPE, initial);
            } else if (typing.check(initial)) {
                fillScalar(type, initial, address);
            }
        }

        private void fillArray(Type type, Node initial, int address) {
            int k = 0;
            for (Node part = initial.a; part != null && right(); part = part.next) {
                if (k >= type.count || type.base == null) {
                    fail(BAD_TYPE, part);
                    return;
                }
                fill(type.base, part, address + k * type.base.size);
                k++;
            }
        }

        private void fillStruct(Type type, Node initial, int address) {
            Thing field = type.fields;
            for (Node part = initial.a; part != null && right(); part = part.next) {
                if (field == null) {
                    fail(BAD_TYPE, part);
                    return;
                }
                fill(field.type, part, address + field.address);
                field = field.next;
            }
        }

        private void fillScalar(Type type, Node initial, int address) {
            if (type.isArithmetic()) {
                if (!program.valueType(initial).isArithmetic()) {
                    fail(BAD_TYPE, initial);
                } else if (!initial.constant) {
                    fail(NO_CONSTANT, initial);
                }
                program.store(address, initial.value, type.size);
            } else if (!typing.fits(initial, type)) {
                fail(BAD_TYPE, initial);
            } else if (initial.kind == N_STRING) {
                // Where it lies is known at the END.
                initial.spot = address;
            } else if (!typing.isNull(initial)) {
                fillAddress(initial, address);
            }
        }

        private void fillAddress(Node initial, int address) {
            Node v = initial.kind == N_ADDRESS && initial.a != null ? initial.a : initial;
            boolean named = v.kind == N_NAME && v.thing != null && v.type != null;
            if (!named || v == initial && v.type.kind != T_ARRAY) {
                fail(NO_CONSTANT, initial);
                return;
            }
            program.store(address, v.thing.address, 4);
        }

        /** All of a function but its BLOCK: the function, or null when there is a fault. */
        private Thing tellFunction(Node n) {
            Type type = program.typeOf(n.a, n.value);
            if (type.kind == T_STRUCT) {
                fail(OUT_OF_PLACE, n);
                return null;
            }
            Thing told = new Thing(FUNCTION, n.name, n.place);
            told.type = type;
            program.enter();
            for (Node param = n.b; param != null && right(); param = param.next) {
                tellParam(told, param);
            }
            program.leave();
            if (!right()) {
                return null;
            }
            Thing f = tellFunctionName(n, told);
            return right() ? f : null;
        }

        private void tellParam(Thing f, Node item) {
            Type type = program.typeOf(item.c, item.value);
            int dims = measure(type, item, true);
            if (!right()) {
                return;
            }
            if (dims > 0) {
                Type rest = shaped(type, 1, dims);
                if (rest.size > MOST_SIZE) {
                    fail(LIMIT, item);
                }
                type = program.pointerTo(rest);
            }
            Thing t = new Thing(VARIABLE, item.name, item.place);
            t.type = type;
            program.declare(t);
            if (!type.isScalar()) {
                fail(OUT_OF_PLACE, item);
            }
            f.addVariable(t);
            f.paramCount++;
            if (f.paramCount > MOST_PARAMS) {
                fail(LIMIT, item);
            }
        }

        /** The function that the name stands for from now on. */
        private Thing tellFunctionName(Node n, Thing told) {
            Thing f = program.find(n.name);
            if (f == null) {
                functions++;
                if (functions > MOST_FUNCTIONS) {
                    fail(LIMIT, n);
                }
                program.declare(told);
                program.addThing(told);
                return told;
            }
            if (f.kind != FUNCTION || f.service != 0) {
                fail(TWICE, n);
            } else if (!alike(f, told)) {
                fail(BAD_TYPE, n);
            } else if (f.block != null && n.c != null) {
                fail(TWICE, n);
            }
            program.countName(n.place);
            if (right() && n.c != null) {
                f.variables = told.variables;
                f.lastVariable = told.lastVariable;
            }
            return f;
        }

        private static boolean alike(Thing f, Thing g) {
            if (f.type != g.type || f.paramCount != g.paramCount) {
                return false;
            }
            Thing q = g.variables;
            Thing p = f.variables;
            for (int i = 0; i < f.paramCount && p != null && q != null; i++) {
                if (p.type != q.type) {
                    return false;
                }
                p = p.next;
                q = q.next;
            }
            return true;
        }

        private void tellBody(Thing f, Node block) {
            f.block = block;
            function = f;
            frameEnd = 0;
            program.enter();
            for (Thing t = f.variables; t != null; t = t.next) {
                program.bind(t);
                allot(t);
            }
            tellRows(block.a);
            program.leave();
            f.frameSize = Program.aligned(frameEnd, 4);
        }

        /** Gives a variable its place in the FRAME. */
        private void allot(Thing t) {
            t.inFrame = true;
            t.address = Program.aligned(frameEnd, t.type.align);
            frameEnd = t.address + t.type.size;
            if (frameEnd > MOST_FRAME) {
                program.fail(LIMIT, t.place);
            }
        }

        private void tellRows(Node first) {
            for (Node n = first; n != null && right(); n = n.next) {
                tellStatement(n);
            }
        }

        private void tellLocal(Node typeNode, Node item) {
            Type type = program.typeOf(typeNode, item.value);
            int dims = measure(type, item, false);
            if (!right()) {
                return;
            }
            type = shaped(type, 0, dims);
            if (type.size > MOST_SIZE) {
                fail(LIMIT, item);
            }
            Thing t = new Thing(VARIABLE, item.name, item.place);
            t.type = type;
            program.declare(t);
            if (!right()) {
                return;
            }
            allot(t);
            function.addVariable(t);
            item.thing = t;
            if (item.b != null && right()) {
                tellLocalInitial(type, item.b);
            }
        }

        private void tellLocalInitial(Type type, Node initial) {
            if (initial.kind == N_BRACES || type.kind == T_ARRAY) {
                fail(OUT_OF_PLACE, initial);
            } else if (!typing.check(initial)) {
                return;
            } else if (type.kind == T_STRUCT) {
                if (program.valueType(initial) != type) {
                    fail(BAD_TYPE, initial);
                } else if (type.size > MOST_COPIED) {
                    fail(LIMIT, initial);
                }
            } else if (!typing.fits(initial, type)) {
                fail(BAD_TYPE, initial);
            }
        }

        /** How deep S's stand is one of the FORM's LIMITS. */
        private void tellStatement(Node n) {
            switch (n.kind) {
                case N_BLOCK:
                    program.enter();
                    tellRows(n.a);
                    program.leave();
                    break;
                case N_ROW:
                    for (Node item = n.b; item != null && right(); item = item.next) {
                        tellLocal(n.a, item);
                    }
                    break;
                case N_EXPRESSION: typing.check(n.a); break;
                case N_IF: tellIf(n); break;
                case N_WHILE:
                    tellCondition(n.a);
                    tellLooped(n.b);
                    break;
                case N_DO:
                    tellLooped(n.b);
                    tellCondition(n.a);
                    break;
                case N_FOR: tellFor(n); break;
                case N_SWITCH: tellSwitch(n); break;
                case N_BREAK:
                    if (breakables == 0) {
                        fail(OUT_OF_PLACE, n);
                    }
                    break;
                case N_CONTINUE:
                    if (loops == 0) {
                        fail(OUT_OF_PLACE, n);
                    }
                    break;
                case N_RETURN: tellReturn(n); break;
                default: break;
            }
        }

        private void tellCondition(Node e) {
            if (e != null && right() && typing.check(e) && !program.valueType(e).isScalar()) {
                fail(BAD_TYPE, e);
            }
        }

        private void tellLooped(Node s) {
            if (!right()) {
                return;
            }
            loops++;
            breakables++;
            tellStatement(s);
            loops--;
            breakables--;
        }

        private void tellIf(Node n) {
            tellCondition(n.a);
            if (right()) {
                tellStatement(n.b);
            }
            if (right() && n.c != null) {
                tellStatement(n.c);
            }
        }

        private void tellFor(Node n) {
            program.enter();
            if (n.d != null) {
                tellStatement(n.d);
            }
            tellCondition(n.a);
            if (n.c != null && right()) {
                typing.check(n.c);
            }
            tellLooped(n.b);
            program.leave();
        }

        private void tellSwitch(Node n) {
            if (typing.check(n.a) && !program.valueType(n.a).isArithmetic()) {
                fail(BAD_TYPE, n.a);
            }
            program.enter();
            breakables++;
            for (Node row = n.b; row != null && right(); row = row.next) {
                if (row.kind == N_CASE || row.kind == N_DEFAULT) {
                    tellLabel(n.b, row);
                } else {
                    tellStatement(row);
                }
            }
            breakables--;
            program.leave();
        }

        private void tellLabel(Node first, Node label) {
            if (label.kind == N_CASE && typing.check(label.a)) {
                if (!label.a.constant) {
                    fail(NO_CONSTANT, label.a);
                }
                label.value = label.a.value;
            }
            for (Node n = first; n != null && n != label; n = n.next) {
                if (n.kind == label.kind && n.value == label.value) {
                    fail(BAD_LABEL, label.kind == N_CASE ? label.a : label);
                }
            }
        }

        private void tellReturn(Node n) {
            boolean empty = n.a == null;
            if (empty != (function.type.kind == T_VOID)) {
                fail(OUT_OF_PLACE, n);
            } else if (!empty && typing.check(n.a) && !typing.fits(n.a, function.type)) {
                fail(BAD_TYPE, n.a);
            }
        }

        private void tellEnd() {
            int missing = NONE;
            for (int i = 0; i < program.thingCount; i++) {
                Thing f = program.things[i];
                boolean lacks = f.kind == FUNCTION && f.block == null && f.firstCall != NONE;
                if (lacks && (missing == NONE || f.firstCall < missing)) {
                    missing = f.firstCall;
                }
            }
            if (missing != NONE) {
                program.fail(MISSING, missing);
            }
            Thing main = program.find(NAME_MAIN);
            boolean begins = main != null && main.kind == FUNCTION && main.block != null && main.paramCount == 0
                && (main.type == program.intType || main.type == program.voidType);
            if (!begins) {
                program.fail(MISSING, tokens.length);
            }
            program.main = main;
            placeStrings();
            program.dataEnd = Program.aligned(program.textEnd, 4);
        }

        private void placeStrings() {
            for (Node n = typing.strings; n != null && right(); n = n.d) {
                int address = program.textEnd;
                if (address + n.value + 1 > MOST_DATA) {
                    fail(LIMIT, n);
                    return;
                }
                tokens.copyString(n.place, n.value, program.data, address);
                if (n.spot != NONE) {
                    program.store(n.spot, address, 4);
                }
                // The caster needs its address, and its length no more.
                program.textEnd = address + n.value + 1;
                n.value = address;
            }
        }
    }

    /** Words of RV32IM, each with the place in the text at which it can trap. */
    private static final class Words {
        private final int[] code = new int[MOST_WORDS];
        private final int[] places = new int[MOST_WORDS];
        private int count;
        private int place;

        private void clear() {
            count = 0;
            place = 0;
        }

        private void put(int word) {
            if (count < MOST_WORDS) {
                code[count] = word;
                places[count] = place;
                count++;
            }
        }

        private void register(int group, int funct, int to, int left, int right) {
            put(group << 25 | right << 20 | left << 15 | funct << 12 | to << 7 | OP_REGISTER);
        }

        private void immediate(int funct, int to, int left, int value) {
            put(value << 20 | left << 15 | funct << 12 | to << 7 | OP_IMMEDIATE);
        }

        private void move(int to, int from) {
            if (to != from) {
                immediate(F_ADD, to, from, 0);
            }
        }

        private void number(int to, int value) {
            int low = value << 20 >> 20;
            int high = value - low;
            if (high != 0) {
                put(high | to << 7 | OP_UPPER);
            }
            if (high == 0 || low != 0) {
                put(low << 20 | (high == 0 ? ZERO : to) << 15 | F_ADD << 12 | to << 7 | OP_IMMEDIATE);
            }
        }

        private void load(boolean one, int to, int base, int offset) {
            int funct = one ? F_BYTE_UNSIGNED : F_WORD;
            put(offset << 20 | base << 15 | funct << 12 | to << 7 | OP_LOAD);
        }

        private void store(boolean one, int from, int base, int offset) {
            int funct = one ? F_BYTE_STORE : F_WORD;
            put(offset >> 5 << 25 | from << 20 | base << 15 | funct << 12 | (offset & 31) << 7 | OP_STORE);
        }

        /** A branch over as many words as told, or back. */
        private void branch(int funct, int left, int right, int over) {
            int offset = over * 4;
            int high = (offset >> 12 & 1) << 31 | (offset >> 5 & 63) << 25;
            int low = (offset >> 1 & 15) << 8 | (offset >> 11 & 1) << 7;
            put(high | right << 20 | left << 15 | funct << 12 | low | OP_BRANCH);
        }

        private static int jump(int to, int over) {
            int offset = over * 4;
            int high = (offset >> 20 & 1) << 31 | (offset >> 1 & 1023) << 21;
            int low = (offset >> 11 & 1) << 20 | (offset >> 12 & 255) << 12;
            return high | low | to << 7 | OP_JUMP;
        }

        private void jumpTo(int target) {
            put(jump(ZERO, target - count));
        }

        /** A jump whose aim isn't known yet; until it is, its word holds the jump ahead of it in the chain. */
        private int jumpLater(int chain) {
            put(chain);
            return count - 1;
        }

        /** Aims all jumps of a chain at a word. */
        private void aim(int chain, int target) {
            int at = chain;
            for (int i = 0; i < count && at >= 0 && at < count; i++) {
                int ahead = code[at];
                code[at] = jump(ZERO, target - at);
                at = ahead;
            }
        }

        private void ask(int service) {
            put(service << 20 | SERVICE << 7 | OP_IMMEDIATE);
            put(OP_SYSTEM);
        }

        private void breakpoint() {
            put(1 << 20 | OP_SYSTEM);
        }

        private void returnToCaller() {
            put(RETURN_TO << 15 | OP_JUMP_REGISTER);
        }
    }

    /** Casts the functions of a program into words. An E's value comes into register PART + d. */
    private static final class Caster {
        private final Program program;
        private final Words words;
        private Thing function;
        private int offset;
        private int breaks;
        private int continues;

        private Caster(Program program, Words words) {
            this.program = program;
            this.words = words;
        }

        /** Each function is called through a jump of its own at the beginning, which is aimed when it is cast. */
        private void castAll() {
            words.clear();
            for (int i = 0; i < program.thingCount; i++) {
                Thing t = program.things[i];
                if (t.kind == FUNCTION) {
                    t.stub = words.jumpLater(NONE);
                }
            }
            for (int i = 0; i < program.thingCount; i++) {
                Thing t = program.things[i];
                if (t.kind == FUNCTION && t.block != null) {
                    function = t;
                    castEntry(t);
                    castRows(t.block.a);
                    castLeave();
                }
            }
        }

        private void castEntry(Thing f) {
            words.aim(f.stub, words.count);
            words.number(SCRATCH, f.frameSize);
            words.number(SECOND, f.number);
            words.ask(ASK_ENTER);
            Thing param = f.variables;
            for (int i = 0; i < f.paramCount && param != null; i++) {
                words.store(isChar(param.type), ARGUMENT + i, SP, param.address);
                param = param.next;
            }
            words.ask(ASK_ROUND);
        }

        /** The end of a function without a return of its own, whose value is 0 then. */
        private void castLeave() {
            words.number(ARGUMENT, 0);
            leave();
        }

        private void leave() {
            words.ask(ASK_LEAVE);
            words.returnToCaller();
        }

        private static boolean isChar(Type t) {
            return t != null && t.kind == T_CHAR;
        }

        private void castRows(Node first) {
            for (Node n = first; n != null; n = n.next) {
                castStatement(n);
            }
        }

        private void castStatement(Node n) {
            switch (n.kind) {
                case N_BLOCK: castRows(n.a); break;
                case N_ROW: castLocals(n); break;
                case N_EXPRESSION: effect(n.a, 0); break;
                case N_IF: castIf(n); break;
                case N_WHILE:
                case N_FOR: castFor(n); break;
                case N_DO: castDo(n); break;
                case N_SWITCH: castSwitch(n); break;
                case N_CASE:
                case N_DEFAULT: words.aim(n.spot, words.count); break;
                case N_BREAK: breaks = words.jumpLater(breaks); break;
                case N_CONTINUE: continues = words.jumpLater(continues); break;
                case N_RETURN: castReturn(n); break;
                default: break;
            }
        }

        private void castLocals(Node row) {
            for (Node item = row.b; item != null; item = item.next) {
                Thing t = item.thing;
                if (item.b == null || t == null || t.type == null) {
                    continue;
                }
                if (t.type.kind == T_STRUCT) {
                    settle(locateThing(t, 0), 0);
                    copy(t.type, null, item.b, 0);
                } else {
                    value(item.b, 0);
                    // Register PART holds the value, so that a far place needs another one.
                    words.store(isChar(t.type), PART, locateThing(t, 1), offset);
                }
            }
        }

        /** Jumps, one of them chained to the others, when an E is 0. */
        private int jumpUnless(Node n, int chain, int d) {
            if (n.constant) {
                return n.value != 0 ? chain : words.jumpLater(chain);
            }
            if (n.kind == N_LOGIC && n.op == AND_AND) {
                return jumpUnless(n.b, jumpUnless(n.a, chain, d), d);
            }
            if (n.kind == N_BINARY && n.op >= LESS && n.op <= NOT_EQUAL) {
                value(n.a, d);
                skipIf(n, PART + d, second(n.b, d));
            } else {
                value(n, d);
                words.branch(F_NOT_EQUAL, PART + d, ZERO, 2);
            }
            return words.jumpLater(chain);
        }

        /** A branch over the next word when a comparison holds. */
        private void skipIf(Node n, int left, int right) {
            boolean unsigned = isUnsigned(program.valueType(n.a)) || isUnsigned(program.valueType(n.b));
            int below = unsigned ? F_BELOW_UNSIGNED : F_BELOW;
            int from = unsigned ? F_FROM_UNSIGNED : F_FROM;
            switch (n.op) {
                case LESS: words.branch(below, left, right, 2); break;
                case GREATER: words.branch(below, right, left, 2); break;
                case LESS_EQUAL: words.branch(from, right, left, 2); break;
                case GREATER_EQUAL: words.branch(from, left, right, 2); break;
                case EQUAL: words.branch(F_EQUAL, left, right, 2); break;
                default: words.branch(F_NOT_EQUAL, left, right, 2); break;
            }
        }

        private void castIf(Node n) {
            int past = jumpUnless(n.a, NONE, 0);
            castStatement(n.b);
            if (n.c != null) {
                int end = words.jumpLater(NONE);
                words.aim(past, words.count);
                castStatement(n.c);
                past = end;
            }
            words.aim(past, words.count);
        }

        /** for, and while, which is one without its first and third E. */
        private void castFor(Node n) {
            int outerBreaks = breaks;
            int outerContinues = continues;
            if (n.d != null) {
                castStatement(n.d);
            }
            int start = words.count;
            breaks = NONE;
            continues = NONE;
            if (n.a != null) {
                breaks = jumpUnless(n.a, NONE, 0);
            }
            words.ask(ASK_ROUND);
            castStatement(n.b);
            words.aim(continues, words.count);
            if (n.c != null) {
                effect(n.c, 0);
            }
            words.jumpTo(start);
            words.aim(breaks, words.count);
            breaks = outerBreaks;
            continues = outerContinues;
        }

        private void castDo(Node n) {
            int outerBreaks = breaks;
            int outerContinues = continues;
            int start = words.count;
            breaks = NONE;
            continues = NONE;
            words.ask(ASK_ROUND);
            castStatement(n.b);
            words.aim(continues, words.count);
            breaks = jumpUnless(n.a, breaks, 0);
            words.jumpTo(start);
            words.aim(breaks, words.count);
            breaks = outerBreaks;
            continues = outerContinues;
        }

        private void castSwitch(Node n) {
            int outerBreaks = breaks;
            value(n.a, 0);
            Node other = null;
            for (Node row = n.b; row != null; row = row.next) {
                if (row.kind == N_DEFAULT) {
                    other = row;
                } else if (row.kind == N_CASE) {
                    words.number(SCRATCH, row.value);
                    words.branch(F_NOT_EQUAL, PART, SCRATCH, 2);
                    row.spot = words.jumpLater(NONE);
                }
            }
            breaks = words.jumpLater(NONE);
            if (other != null) {
                other.spot = breaks;
                breaks = NONE;
            }
            castRows(n.b);
            words.aim(breaks, words.count);
            breaks = outerBreaks;
        }

        private void castReturn(Node n) {
            if (n.a == null) {
                castLeave();
                return;
            }
            value(n.a, 0);
            if (isChar(function.type)) {
                words.immediate(F_AND, ARGUMENT, PART, 255);
            } else {
                words.move(ARGUMENT, PART);
            }
            leave();
        }

        /** An E whose value isn't needed. What it reads is read all the same. */
        private void effect(Node n, int d) {
            if (n.kind == N_ASSIGN) {
                assign(n, d);
            } else if (n.kind == N_BEFORE || n.kind == N_AFTER) {
                step(n, d);
            } else {
                value(n, d);
            }
        }

        /** An E's value, or the address of a struct, comes into its register. What it reads is read. */
        private void value(Node n, int d) {
            if (n == null) {
                return;
            }
            int part = PART + d;
            if (n.constant) {
                words.number(part, n.value);
                return;
            }
            switch (n.kind) {
                case N_STRING: words.number(part, n.value); break;
                case N_CALL: call(n, d); break;
                case N_NAME:
                case N_INDEX:
                case N_FIELD:
                case N_ARROW:
                case N_POINTED: read(n, locate(n, d), d); break;
                case N_ADDRESS: settle(locate(n.a, d), d); break;
                case N_BEFORE:
                case N_AFTER: words.move(part, step(n, d)); break;
                case N_UNARY:
                    value(n.a, d);
                    unary(n.op, part);
                    break;
                case N_CAST:
                    value(n.a, d);
                    if (n.op == T_CHAR) {
                        words.immediate(F_AND, part, part, 255);
                    }
                    break;
                case N_BINARY:
                    value(n.a, d);
                    if (!operateBy(n, part)) {
                        operate(n, part, second(n.b, d));
                    }
                    break;
                case N_LOGIC: logic(n, d); break;
                case N_CHOICE: choice(n, d); break;
                case N_ASSIGN: words.move(part, assign(n, d)); break;
                case N_COMMA:
                    effect(n.a, d);
                    value(n.b, d);
                    break;
                default: break;
            }
        }

        /** Works an E out while register d is held: the register that has its value. */
        private int second(Node n, int d) {
            int part = PART + d;
            if (n.constant && n.value == 0) {
                return ZERO;
            }
            if (part < LAST_PART) {
                value(n, d + 1);
                return part + 1;
            }
            push(part);
            value(n, d);
            words.move(SECOND, part);
            pop(part);
            return SECOND;
        }

        private void push(int part) {
            words.move(SCRATCH, part);
            words.ask(ASK_PUSH);
        }

        private void pop(int part) {
            words.ask(ASK_POP);
            words.move(part, SCRATCH);
        }

        /** Makes a place ready for a load or store: the base's register; the rest is the offset. */
        private int locate(Node n, int d) {
            int part = PART + d;
            switch (n.kind) {
                case N_NAME: return locateThing(n.thing, d);
                case N_FIELD: return further(locate(n.a, d), offset, n.thing, d);
                case N_ARROW:
                    value(n.a, d);
                    return further(part, 0, n.thing, d);
                case N_INDEX:
                    value(n.a, d);
                    int index = second(n.b, d);
                    scale(index, n.type);
                    words.register(GROUP_BASE, F_ADD, part, part, index);
                    break;
                default:
                    value(n.kind == N_POINTED ? n.a : n, d);
                    break;
            }
            offset = 0;
            return part;
        }

        private int locateThing(Thing t, int d) {
            return t == null ? ZERO : further(t.inFrame ? SP : ZERO, 0, t, d);
        }

        /** What lies a thing's place further on; where an offset of 12 bits is too small, register d takes the sum. */
        private int further(int base, int from, Thing t, int d) {
            offset = from + (t == null ? 0 : t.address);
            if (offset < 2048) {
                return base;
            }
            words.number(SCRATCH, offset);
            words.register(GROUP_BASE, F_ADD, PART + d, base, SCRATCH);
            offset = 0;
            return PART + d;
        }

        /** Brings a base and the offset into register d. */
        private void settle(int base, int d) {
            if (base != PART + d || offset != 0) {
                words.immediate(F_ADD, PART + d, base, offset);
            }
        }

        /** Reads a variable that was located; of an array or struct its address is all there is. */
        private void read(Node n, int base, int d) {
            if (n.type != null && (n.type.kind == T_ARRAY || n.type.kind == T_STRUCT)) {
                settle(base, d);
                return;
            }
            words.place = n.place;
            words.load(isChar(n.type), PART + d, base, offset);
        }

        /** A number of elements becomes one of bytes. */
        private void scale(int part, Type element) {
            if (element != null && element.size != 1) {
                words.number(SCRATCH, element.size);
                words.register(GROUP_M, F_MUL, part, part, SCRATCH);
            }
        }

        private void unary(int op, int part) {
            if (op == MINUS) {
                words.register(GROUP_OTHER, F_ADD, part, ZERO, part);
            } else if (op == TILDE) {
                words.immediate(F_XOR, part, part, -1);
            } else {
                truth(false, part);
            }
        }

        /** Words for an operator with a constant of 12 bits at its right; whether there are such. */
        private boolean operateBy(Node n, int left) {
            if (!n.b.constant) {
                return false;
            }
            Type from = program.valueType(n.a);
            int by = from.kind == T_POINTER && from.base != null ? n.b.value * from.base.size : n.b.value;
            boolean away = n.op == MINUS || n.op == EQUAL || n.op == NOT_EQUAL;
            boolean shifts = n.op == SHIFT_LEFT || n.op == SHIFT_RIGHT;
            by = away ? -by : shifts ? by & 31 : by;
            if (by < -2048 || by > 2047) {
                return false;
            }
            switch (n.op) {
                case PLUS:
                case MINUS: words.immediate(F_ADD, left, left, by); break;
                case AMPERSAND: words.immediate(F_AND, left, left, by); break;
                case BAR: words.immediate(F_OR, left, left, by); break;
                case CARET: words.immediate(F_XOR, left, left, by); break;
                case SHIFT_LEFT: words.immediate(F_SHIFT_LEFT, left, left, by); break;
                case SHIFT_RIGHT: words.immediate(F_SHIFT_RIGHT, left, left, isUnsigned(from) ? by : by | KEEPS_SIGN); break;
                case LESS:
                    boolean unsigned = isUnsigned(from) || isUnsigned(program.valueType(n.b));
                    words.immediate(unsigned ? F_LESS_UNSIGNED : F_LESS, left, left, by);
                    break;
                case EQUAL:
                case NOT_EQUAL:
                    words.immediate(F_ADD, left, left, by);
                    truth(n.op == NOT_EQUAL, left);
                    break;
                default: return false;
            }
            return true;
        }

        /** 1 for what isn't 0, or the other way round. */
        private void truth(boolean ofOthers, int part) {
            if (ofOthers) {
                words.register(GROUP_BASE, F_LESS_UNSIGNED, part, ZERO, part);
            } else {
                words.immediate(F_LESS_UNSIGNED, part, part, 1);
            }
        }

        /** The operator of a node of two values in registers, of which it may change both: the left one takes its value. */
        private void operate(Node n, int left, int right) {
            Type from = program.valueType(n.a);
            Type with = program.valueType(n.b);
            boolean unsigned = isUnsigned(from) || isUnsigned(with);
            if (n.op >= LESS && n.op <= NOT_EQUAL) {
                compare(n.op, unsigned, left, right);
                return;
            }
            if (from.kind == T_POINTER && with.kind == T_POINTER) {
                words.register(GROUP_OTHER, F_ADD, left, left, right);
                distance(left, from.base);
                return;
            }
            if (from.kind == T_POINTER) {
                scale(right, from.base);
            } else if (with.kind == T_POINTER) {
                scale(left, with.base);
            }
            if (n.op == SLASH || n.op == PERCENT) {
                divide(n, unsigned, left, right);
            } else if (n.op == SHIFT_RIGHT) {
                words.register(isUnsigned(from) ? GROUP_BASE : GROUP_OTHER, F_SHIFT_RIGHT, left, left, right);
            } else {
                plain(n.op, left, right);
            }
        }

        private static boolean isUnsigned(Type t) {
            return t.kind == T_UNSIGNED || t.kind == T_POINTER;
        }

        private void plain(int op, int left, int right) {
            switch (op) {
                case PLUS: words.register(GROUP_BASE, F_ADD, left, left, right); break;
                case MINUS: words.register(GROUP_OTHER, F_ADD, left, left, right); break;
                case STAR: words.register(GROUP_M, F_MUL, left, left, right); break;
                case AMPERSAND: words.register(GROUP_BASE, F_AND, left, left, right); break;
                case BAR: words.register(GROUP_BASE, F_OR, left, left, right); break;
                case CARET: words.register(GROUP_BASE, F_XOR, left, left, right); break;
                default: words.register(GROUP_BASE, F_SHIFT_LEFT, left, left, right); break;
            }
        }

        private void distance(int part, Type element) {
            if (element != null && element.size != 1) {
                words.number(SCRATCH, element.size);
                words.register(GROUP_M, F_DIV, part, part, SCRATCH);
            }
        }

        /** The machine's own division by 0 doesn't trap, so that a breakpoint stands in its way. */
        private void divide(Node n, boolean unsigned, int left, int right) {
            if (!n.b.constant || n.b.value == 0) {
                words.place = n.place;
                words.branch(F_NOT_EQUAL, right, ZERO, 2);
                words.breakpoint();
            }
            int funct = n.op == SLASH ? F_DIV : F_REM;
            int without = n.op == SLASH ? F_DIV_UNSIGNED : F_REM_UNSIGNED;
            words.register(GROUP_M, unsigned ? without : funct, left, left, right);
        }

        private void compare(int op, boolean unsigned, int left, int right) {
            if (op == EQUAL || op == NOT_EQUAL) {
                words.register(GROUP_OTHER, F_ADD, left, left, right);
                truth(op == NOT_EQUAL, left);
                return;
            }
            int funct = unsigned ? F_LESS_UNSIGNED : F_LESS;
            if (op == LESS || op == GREATER_EQUAL) {
                words.register(GROUP_BASE, funct, left, left, right);
            } else {
                words.register(GROUP_BASE, funct, left, right, left);
            }
            if (op == LESS_EQUAL || op == GREATER_EQUAL) {
                words.immediate(F_XOR, left, left, 1);
            }
        }

        private void logic(Node n, int d) {
            int part = PART + d;
            value(n.a, d);
            words.branch(n.op == AND_AND ? F_NOT_EQUAL : F_EQUAL, part, ZERO, 2);
            int end = words.jumpLater(NONE);
            value(n.b, d);
            words.aim(end, words.count);
            truth(true, part);
        }

        private void choice(Node n, int d) {
            int other = jumpUnless(n.a, NONE, d);
            value(n.b, d);
            int end = words.jumpLater(NONE);
            words.aim(other, words.count);
            value(n.c, d);
            words.aim(end, words.count);
        }

        /** ++ and --: the register that has the value. */
        private int step(Node n, int d) {
            int base = locate(n.a, d);
            boolean one = isChar(n.a.type);
            Type type = n.a.type;
            words.place = n.a.place;
            words.load(one, OLD, base, offset);
            int by = type != null && type.base != null ? type.base.size : 1;
            if (by < 2048) {
                words.immediate(F_ADD, FRESH, OLD, n.op == INCREMENT ? by : -by);
            } else {
                words.number(SCRATCH, by);
                words.register(n.op == INCREMENT ? GROUP_BASE : GROUP_OTHER, F_ADD, FRESH, OLD, SCRATCH);
            }
            if (one) {
                words.immediate(F_AND, FRESH, FRESH, 255);
            }
            words.store(one, FRESH, base, offset);
            return n.kind == N_BEFORE ? FRESH : OLD;
        }

        /** = and op=: the register that has the value. */
        private int assign(Node n, int d) {
            int part = PART + d;
            int base = locate(n.a, d);
            if (n.a.type != null && n.a.type.kind == T_STRUCT) {
                settle(base, d);
                copy(n.a.type, n.a, n.b, d);
                return part;
            }
            int from = offset;
            int right = part;
            if (n.op != END && n.b.constant) {
                // There is nothing to work out, so that it may come behind the left one.
                right = SECOND;
            } else if (base == part) {
                right = second(n.b, d);
            } else {
                value(n.b, d);
            }
            if (n.op != END) {
                words.place = n.a.place;
                words.load(isChar(n.a.type), OLD, base, from);
                if (!operateBy(n, OLD)) {
                    if (n.b.constant) {
                        words.number(right, n.b.value);
                    }
                    operate(n, OLD, right);
                }
                right = OLD;
            }
            if (isChar(n.a.type)) {
                words.immediate(F_AND, OLD, right, 255);
                right = OLD;
            }
            words.place = n.a.place;
            words.store(isChar(n.a.type), right, base, from);
            return right;
        }

        /** Copies a struct to the address in register d. Where the left one is a variable by its name, it is null. */
        private void copy(Type type, Node left, Node right, int d) {
            int from = second(right, d);
            Node source = right;
            for (int i = 0; i <= MOST_HEIGHT && source.kind == N_COMMA && source.b != null; i++) {
                source = source.b;
            }
            probe(type, source, from);
            if (left != null) {
                probe(type, left, PART + d);
            }
            words.move(SCRATCH, from);
            words.move(SECOND, PART + d);
            boolean one = type.align == 1;
            int bytes = one ? 1 : 4;
            words.number(FRESH, type.size);
            words.load(one, OLD, SCRATCH, 0);
            words.store(one, OLD, SECOND, 0);
            words.immediate(F_ADD, SCRATCH, SCRATCH, bytes);
            words.immediate(F_ADD, SECOND, SECOND, bytes);
            words.immediate(F_ADD, FRESH, FRESH, -bytes);
            words.branch(F_NOT_EQUAL, FRESH, ZERO, -5);
        }

        /** Loads the ends of a struct for their traps alone: nothing may be copied ahead of these. */
        private void probe(Type type, Node n, int base) {
            if (n.kind == N_NAME) {
                return;
            }
            words.place = n.place;
            words.load(true, ZERO, base, 0);
            words.load(true, ZERO, base, type.size - 1);
            if (type.align > 1) {
                words.load(false, ZERO, base, 0);
            }
        }

        private void call(Node n, int d) {
            Thing f = n.thing;
            if (f == null) {
                return;
            }
            arguments(n, f.paramCount, d);
            if (f.service != 0) {
                words.ask(f.service);
            } else {
                words.place = n.place;
                words.put(Words.jump(RETURN_TO, f.stub - words.count));
            }
            words.move(PART + d, ARGUMENT);
        }

        private void arguments(Node n, int count, int d) {
            boolean inRegisters = PART + d + count - 1 <= LAST_PART;
            int k = 0;
            for (Node argument = n.a; argument != null; argument = argument.next) {
                value(argument, inRegisters ? d + k : d);
                if (!inRegisters) {
                    push(PART + d);
                }
                k++;
            }
            for (int i = count - 1; i >= 0; i--) {
                if (inRegisters) {
                    words.move(ARGUMENT + i, PART + d + i);
                } else {
                    pop(ARGUMENT + i);
                }
            }
        }
    }

    /** Runs words in a MEMORY; what an ecall asks for, FRAMES, INPUT and OUTPUT, is kept apart from that. */
    private static final class Machine {
        private final Program program;
        private final Words words;
        private final byte[] memory = new byte[MOST_MEMORY];
        private int size;
        private final int[] x = new int[32];
        private int pc;
        private int state = NO_PROGRAM;
        private int result;
        private int trapPlace = NONE;
        private int rounds;
        // ROUNDS that may begin; below 0 when it stands ahead of one that may not.
        private int open;
        private int frames;
        private int leastSp;
        // Of each FRAME: its function, SP, CALL's place, where it returns to, and the caller's parts.
        private final int[] rows = new int[MOST_FRAMES * FRAME_ROW];
        private final int[] pushed = new int[MOST_FRAMES * PUSHED_PER_FRAME];
        private int pushes;
        private final byte[] output = new byte[KEPT_OUTPUT];
        private int sent;
        private final byte[] input = new byte[TAPE_BYTES];
        private int inputEnd;
        private int inputAt;

        private Machine(Program program, Words words) {
            this.program = program;
            this.words = words;
        }

        private void forget() {
            state = NO_PROGRAM;
            size = 0;
            clearRun();
        }

        private void clearRun() {
            result = 0;
            trapPlace = NONE;
            rounds = 0;
            frames = 0;
            leastSp = 0;
            pushes = 0;
            sent = 0;
        }

        private void takeInput(byte[] tape, int count) {
            System.arraycopy(tape, 0, input, 0, count);
            inputEnd = count;
            inputAt = 0;
        }

        private boolean start(int bytes) {
            boolean wrong = bytes < LEAST_MEMORY || bytes > MOST_MEMORY || (bytes & 3) != 0;
            Thing main = program.main;
            if (state == NO_PROGRAM || main == null || wrong || bytes - main.frameSize < program.dataEnd) {
                return false;
            }
            clearRun();
            size = bytes;
            System.arraycopy(program.data, 0, memory, 0, program.dataEnd);
            for (int i = program.dataEnd; i < bytes; i++) {
                memory[i] = 0;
            }
            Arrays.fill(x, 0);
            x[SP] = bytes;
            leastSp = bytes;
            pc = main.stub * 4;
            state = STANDS;
            run(0);
            return true;
        }

        /** Runs up to ahead of the ROUND behind the n-th one: how many began. */
        private int run(int n) {
            open = n;
            for (int i = 0; i < MOST_STEPS && state == STANDS && open >= 0; i++) {
                step();
            }
            return n - Math.max(open, 0);
        }

        /** The word that was taken last traps. */
        private void trap(int number) {
            state = TRAPPED;
            result = number;
            trapPlace = placeAhead(pc);
        }

        private void end(int value) {
            state = ENDED;
            result = value;
            frames = 0;
        }

        /** The place of the word ahead of an address. */
        private int placeAhead(int address) {
            int at = (address >> 2) - 1;
            return at >= 0 && at < words.count ? words.places[at] : 0;
        }

        private void step() {
            int at = pc >> 2;
            if (at < 0 || at >= words.count) {
                end(0);
                return;
            }
            int word = words.code[at];
            int to = word >> 7 & 31;
            int left = x[word >> 15 & 31];
            pc += 4;
            switch (word & 127) {
                case OP_IMMEDIATE: x[to] = computeImmediate(word >> 12 & 7, left, word >> 20); break;
                case OP_LOAD: x[to] = load(word, left + (word >> 20)); break;
                case OP_STORE: store(word, left + (word >> 25 << 5 | to)); break;
                case OP_REGISTER: x[to] = compute(word, left, x[word >> 20 & 31]); break;
                case OP_UPPER: x[to] = word & 0xfffff000; break;
                case OP_BRANCH:
                    if (branches(word >> 12 & 7, left, x[word >> 20 & 31])) {
                        pc += branchOffset(word) - 4;
                    }
                    break;
                case OP_JUMP:
                    x[to] = pc;
                    pc += jumpOffset(word) - 4;
                    break;
                case OP_JUMP_REGISTER: pc = left; break;
                default:
                    if (word >>> 20 == 1) {
                        trap(TRAP_ZERO);
                    } else {
                        serve();
                    }
            }
            x[ZERO] = 0;
        }

        private static boolean branches(int funct, int left, int right) {
            switch (funct) {
                case F_EQUAL: return left == right;
                case F_NOT_EQUAL: return left != right;
                case F_BELOW: return left < right;
                case F_FROM: return left >= right;
                case F_BELOW_UNSIGNED: return left + -2147483648 < right + -2147483648;
                default: return left + -2147483648 >= right + -2147483648;
            }
        }

        private static int branchOffset(int word) {
            return word >> 31 << 12 | (word >> 7 & 1) << 11 | (word >> 25 & 63) << 5 | (word >> 8 & 15) << 1;
        }

        private static int jumpOffset(int word) {
            return word >> 31 << 20 | (word >> 12 & 255) << 12 | (word >> 20 & 1) << 11 | (word >> 21 & 1023) << 1;
        }

        private static int compute(int word, int left, int right) {
            int funct = word >> 12 & 7;
            int group = word >>> 25;
            if (group == GROUP_M) {
                return computeM(funct, left, right);
            }
            if (group == GROUP_OTHER) {
                return funct == F_ADD ? left - right : left >> right;
            }
            return computeImmediate(funct, left, funct == F_SHIFT_RIGHT ? right & 31 : right);
        }

        private static int computeImmediate(int funct, int left, int right) {
            switch (funct) {
                case F_ADD: return left + right;
                case F_LESS: return left < right ? 1 : 0;
                case F_LESS_UNSIGNED: return left + -2147483648 < right + -2147483648 ? 1 : 0;
                case F_SHIFT_LEFT: return left << right;
                case F_SHIFT_RIGHT: return (right & KEEPS_SIGN) != 0 ? left >> right : left >>> right;
                case F_XOR: return left ^ right;
                case F_OR: return left | right;
                default: return left & right;
            }
        }

        private static int computeM(int funct, int left, int right) {
            if (funct == F_MUL) {
                return left * right;
            }
            if (right == 0) {
                return funct == F_DIV || funct == F_DIV_UNSIGNED ? -1 : left;
            }
            long wideLeft = left & 0xffffffffL;
            long wideRight = right & 0xffffffffL;
            switch (funct) {
                case F_DIV: return left / right;
                case F_DIV_UNSIGNED: return (int) (wideLeft / wideRight);
                case F_REM: return left % right;
                default: return (int) (wideLeft % wideRight);
            }
        }

        /** Whether as many bytes can be read or written at an address; if not, it traps. */
        private boolean opens(int address, int bytes) {
            if (address < FIRST_ADDRESS || address > size - bytes) {
                trap(TRAP_ADDRESS);
                return false;
            }
            if ((address & bytes - 1) != 0) {
                trap(TRAP_ALIGNED);
                return false;
            }
            return true;
        }

        private int load(int word, int address) {
            if ((word >> 12 & 7) != F_WORD) {
                return opens(address, 1) ? memory[address] & 255 : 0;
            }
            if (!opens(address, 4)) {
                return 0;
            }
            int high = memory[address + 3] << 24 | (memory[address + 2] & 255) << 16;
            return high | (memory[address + 1] & 255) << 8 | memory[address] & 255;
        }

        private void store(int word, int address) {
            int bytes = (word >> 12 & 7) == F_WORD ? 4 : 1;
            if (!opens(address, bytes)) {
                return;
            }
            int value = x[word >> 20 & 31];
            memory[address] = (byte) value;
            if (bytes == 4) {
                memory[address + 1] = (byte) (value >> 8);
                memory[address + 2] = (byte) (value >> 16);
                memory[address + 3] = (byte) (value >> 24);
            }
        }

        private void serve() {
            switch (x[SERVICE]) {
                case ASK_ROUND: round(); break;
                case ASK_ENTER: enter(); break;
                case ASK_LEAVE: leave(); break;
                case ASK_GET: x[ARGUMENT] = nextInput(); break;
                case ASK_PUT: send(x[ARGUMENT]); break;
                case ASK_HALT: end(x[ARGUMENT]); break;
                case ASK_PUSH:
                    if (pushes < pushed.length) {
                        pushed[pushes] = x[SCRATCH];
                        pushes++;
                    }
                    break;
                default:
                    if (pushes > 0) {
                        pushes--;
                        x[SCRATCH] = pushed[pushes];
                    }
            }
        }

        /** A ROUND begins, or the machine rests ahead of it. */
        private void round() {
            open--;
            if (open < 0) {
                pc -= 4;
            } else {
                rounds++;
            }
        }

        private void enter() {
            int sp = x[SP] - x[SCRATCH];
            int callPlace = frames == 0 ? NONE : placeAhead(x[RETURN_TO]);
            if (frames >= MOST_FRAMES || sp < program.dataEnd) {
                trap(TRAP_FRAME);
                trapPlace = callPlace;
                return;
            }
            int row = frames * FRAME_ROW;
            rows[row] = x[SECOND];
            rows[row + 1] = sp;
            rows[row + 2] = callPlace;
            rows[row + 3] = x[RETURN_TO];
            System.arraycopy(x, PART, rows, row + 4, LAST_PART - PART + 1);
            frames++;
            x[SP] = sp;
            leastSp = Math.min(leastSp, sp);
        }

        private void leave() {
            if (frames <= 1) {
                end(x[ARGUMENT]);
                return;
            }
            frames--;
            int row = frames * FRAME_ROW;
            x[RETURN_TO] = rows[row + 3];
            System.arraycopy(rows, row + 4, x, PART, LAST_PART - PART + 1);
            x[SP] = rows[row - FRAME_ROW + 1];
        }

        private int nextInput() {
            if (inputAt >= inputEnd) {
                return NONE;
            }
            inputAt++;
            return input[inputAt - 1] & 255;
        }

        private void send(int value) {
            if (sent < KEPT_OUTPUT) {
                output[sent] = (byte) value;
            }
            sent = Math.min(sent + 1, COUNTED_OUTPUT);
        }
    }
}
