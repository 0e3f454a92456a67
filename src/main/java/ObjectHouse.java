import java.util.Arrays;

/**
 * An in-memory object database: a class text defines the types, transactions work on versions of the objects,
 * and a log restores the newest version after a crash. README.md says how to use it.
 */
public final class ObjectHouse {
    // Limits of the document.
    private static final int TRAY_ROOM = 65540;
    private static final int TEXT_ROOM = 20000;
    private static final int TYPES = 400;
    private static final int CLASSES = 60;
    private static final int PAIRS = 8;
    private static final int FIELDS = 40;
    private static final int METHODS = 20;
    private static final int PARAMETERS = 8;
    private static final int CONSTANTS = 40;
    private static final int NAME_LENGTH = 30;
    private static final int LITERAL_LENGTH = 100;
    private static final int DIGITS = 15;
    private static final int DEPTH = 30;
    private static final int HEIGHT = 30;
    private static final int SOURCES = 3;
    private static final int COLUMNS = 4;
    private static final int ROWS = 1000;
    private static final int ARGUMENTS = 40;
    private static final int CALLS = 30;
    private static final int STEPS = 100000;
    private static final int OBJECTS = 4000;
    private static final int CELLS = 20000;
    private static final int CHANGES = 60000;
    private static final int ELEMENTS = 400;
    private static final int LETTERS = 1000;
    private static final int ACTS = 8;
    private static final int VERSIONS = 64;
    private static final int ROOTS = 16;
    private static final int GRAPH_ROOM = 20000;
    private static final int GRAPH_TYPES = 100;
    private static final int PATCH_ROWS = 2000;
    private static final int LOG_ROOM = 40000;
    private static final int OPENINGS = 20;

    // Room of our own, above what the limits of the document let a text need.
    private static final int TOKENS = 20002;
    private static final int WORDS = 16000;
    private static final int WORD_ROOM = 65536;
    private static final int HEADS = 1024;
    private static final int MEMBERS = 10001;
    private static final int SIGNATURE = 9;
    private static final int ALL_METHODS = 4000;
    private static final int ALL_CONSTANTS = 2400;
    private static final int CACHE = 1024;
    private static final int OPERATORS = 340;
    private static final int CODE_ROOM = 120000;
    private static final int JUMPS = 600;
    private static final int SCOPES = 64;
    private static final int FRAME = 400;
    private static final int TICKS = 20000000;
    private static final int MOST_INT = 0x7FFFFFFF;
    private static final long MOST_LONG = 0x7FFFFFFFFFFFFFFFL;
    private static final long LEAST_LONG = 0x8000000000000000L;
    private static final int BLOCK = 2;
    private static final int BLOCKS = CELLS + CHANGES + BLOCK * (OBJECTS + CHANGES + 1);

    // Codes of the document.
    private static final int CLOSED = -13;
    private static final int UNKNOWN = -14;
    private static final int IS_NULL = -3;
    private static final int WRONG = -1;
    private static final int FIXED = -5;
    private static final int NEGATIVE = -4;
    private static final int OUTSIDE = -2;
    private static final int FULL = -12;
    private static final int UNFIT = -6;
    private static final int STALE = -15;
    private static final int BAD_GRAPH = -20;

    // The types that always exist, and what stands for a type where there is none.
    private static final int BOOLEAN = 0;
    private static final int BYTE = 1;
    private static final int SHORT = 2;
    private static final int CHAR = 3;
    private static final int INT = 4;
    private static final int LONG = 5;
    private static final int FLOAT = 6;
    private static final int DOUBLE = 7;
    private static final int OBJECT = 8;
    private static final int TEXT = 9;
    private static final int FIRST_CLASS = 10;
    private static final int KINDS = FIRST_CLASS + CLASSES;
    private static final int NONE = -1;
    private static final int NULL_TYPE = -2;
    private static final int ENUM_NAME = 1000;
    private static final int CLASS_NAME = 2000;
    private static final String DESCRIPTORS = "ZBSCIJFD";

    // What sort of type it is.
    private static final int IS_PLAIN = 0;
    private static final int IS_OBJECT = 1;
    private static final int IS_TEXT = 2;
    private static final int IS_CLASS = 3;
    private static final int IS_ABSTRACT = 4;
    private static final int IS_INTERFACE = 5;
    private static final int IS_ENUM = 6;
    private static final int IS_RECORD = 7;
    private static final int IS_ARRAY = 8;

    // The words that are known from the beginning; the number of a keyword is the kind of its token.
    private static final String KNOWN_WORDS = "abstract class extends implements interface default enum record return boolean byte short char int long float double true false null this instanceof in from where order down give exists all count sum Object Text length number at ";
    private static final int K_ABSTRACT = 0;
    private static final int K_CLASS = 1;
    private static final int K_EXTENDS = 2;
    private static final int K_IMPLEMENTS = 3;
    private static final int K_INTERFACE = 4;
    private static final int K_DEFAULT = 5;
    private static final int K_ENUM = 6;
    private static final int K_RECORD = 7;
    private static final int K_RETURN = 8;
    private static final int K_BOOLEAN = 9;
    private static final int K_DOUBLE = 16;
    private static final int K_TRUE = 17;
    private static final int K_FALSE = 18;
    private static final int K_NULL = 19;
    private static final int K_THIS = 20;
    private static final int K_INSTANCEOF = 21;
    private static final int K_IN = 22;
    private static final int K_FROM = 23;
    private static final int K_WHERE = 24;
    private static final int K_ORDER = 25;
    private static final int K_DOWN = 26;
    private static final int K_GIVE = 27;
    private static final int K_EXISTS = 28;
    private static final int K_ALL = 29;
    private static final int K_SUM = 31;
    private static final int KEYWORDS = 32;
    private static final int W_OBJECT = 32;
    private static final int W_TEXT = 33;
    private static final int W_LENGTH = 34;
    private static final int W_NUMBER = 35;
    private static final int W_AT = 36;

    // The other kinds of tokens; those of the symbols are in the order of SYMBOLS, then the longer ones.
    private static final int T_NAME = 40;
    private static final int T_INT = 41;
    private static final int T_LONG = 42;
    private static final int T_DOUBLE = 43;
    private static final int T_CHAR = 44;
    private static final int T_TEXT = 45;
    private static final int T_END = 46;
    private static final int T_BAD = 47;
    private static final String SYMBOLS = "{}()[],;.?:=+-*/%<>!~&^|";
    private static final int S_FIRST = 50;
    private static final int S_BODY = 50;
    private static final int S_BODY_END = 51;
    private static final int S_OPEN = 52;
    private static final int S_CLOSE = 53;
    private static final int S_SQUARE = 54;
    private static final int S_SQUARE_END = 55;
    private static final int S_COMMA = 56;
    private static final int S_SEMICOLON = 57;
    private static final int S_DOT = 58;
    private static final int S_QUESTION = 59;
    private static final int S_COLON = 60;
    private static final int S_ADD = 62;
    private static final int S_SUBTRACT = 63;
    private static final int S_MULTIPLY = 64;
    private static final int S_DIVIDE = 65;
    private static final int S_REMAINDER = 66;
    private static final int S_LESS = 67;
    private static final int S_GREATER = 68;
    private static final int S_NOT = 69;
    private static final int S_TILDE = 70;
    private static final int S_AND = 71;
    private static final int S_XOR = 72;
    private static final int S_OR = 73;
    private static final int S_LEFT = 74;
    private static final int S_RIGHT = 75;
    private static final int S_RIGHT_ZERO = 76;
    private static final int S_AT_MOST = 77;
    private static final int S_AT_LEAST = 78;
    private static final int S_EQUAL = 79;
    private static final int S_UNEQUAL = 80;
    private static final int S_BOTH = 81;
    private static final int S_EITHER = 82;
    private static final int TEST_LEVEL = 7;
    private static final int SHIFT_LEVEL = 8;

    // The items of a parsed expression, in the order in which they are evaluated.
    private static final int I_START = 0;
    private static final int I_NAME = 1;
    private static final int I_OWNER = 2;
    private static final int I_SOURCE = 3;
    private static final int I_LITERAL = 4;
    private static final int I_THIS = 5;
    private static final int I_SELF = 6;
    private static final int I_FIELD = 7;
    private static final int I_CALL = 8;
    private static final int I_INDEX = 9;
    private static final int I_UNARY = 10;
    private static final int I_BINARY = 11;
    private static final int I_BRANCH = 12;
    private static final int I_THEN = 13;
    private static final int I_ELSE = 14;
    private static final int I_CHOICE = 15;
    private static final int I_CAST = 16;
    private static final int I_INSTANCE = 17;
    private static final int I_BIND = 18;
    private static final int I_QUANTIFIER = 19;
    private static final int I_RETURN = 20;
    private static final int I_FROM = 21;
    private static final int I_WHERE = 22;
    private static final int I_ORDER = 23;
    private static final int I_GIVE = 24;

    // The instructions of the machine, each followed by its operands.
    private static final int STOP = 0;
    private static final int CONSTANT = 1;
    private static final int WORD = 2;
    private static final int LOCAL = 3;
    private static final int FIELD = 4;
    private static final int LENGTH = 5;
    private static final int NUMBER = 6;
    private static final int INDEX = 7;
    private static final int TEXT_LENGTH = 8;
    private static final int TEXT_AT = 9;
    private static final int CALL = 10;
    private static final int RETURN = 11;
    private static final int UNARY = 12;
    private static final int BINARY = 13;
    private static final int CAST = 14;
    private static final int CAST_TO = 15;
    private static final int INSTANCE = 16;
    private static final int CONVERT = 17;
    private static final int BOTH = 18;
    private static final int EITHER = 19;
    private static final int CHOOSE = 20;
    private static final int JUMP = 21;
    private static final int UNLESS = 22;
    private static final int LOOP = 23;
    private static final int NEXT = 24;
    private static final int TEST = 25;
    private static final int DONE = 26;
    private static final int LEAVE = 27;
    private static final int ROW = 28;

    // What a transaction has done with an object.
    private static final int READ = 1;
    private static final int CHANGED = 2;
    private static final int CREATED = 4;

    // Where an object comes from, unless it is the version in which it was committed.
    private static final int OPEN = -1;
    private static final int LOST = -2;
    private static final int COLLECTED = 1000;
    private static final int ROOT_CHANGES = (VERSIONS + 1) * ROOTS;

    private static final int SET = 1;
    private static final int NEW = 2;
    private static final int ROW_SIZE = 5;

    private final Bytes tray = new Bytes(TRAY_ROOM);
    private final Words words = new Words();
    private final Types types = new Types(words);
    private final Parser parser = new Parser(words);
    private final Coder coder = new Coder(words, types, parser);
    private final Store store = new Store(words, types);
    private final Answers answers = new Answers(store);
    private final Machine machine = new Machine(store, coder, answers);
    private final Graphs graphs = new Graphs(store);
    private final Journal journal = new Journal(store);
    private final int[] argumentKinds = new int[ARGUMENTS];
    private final long[] argumentBits = new long[ARGUMENTS];
    private int arguments;
    private boolean declared;
    private boolean closed;
    private int place = NONE;
    private int clash = NONE;
    private int code;

    public ObjectHouse() {
    }

    public int feed(int a, int b, int c, int d, int e) {
        if (tray.length + 20 > TRAY_ROOM) {
            return WRONG;
        }
        tray.addNumber(a, 4);
        tray.addNumber(b, 4);
        tray.addNumber(c, 4);
        tray.addNumber(d, 4);
        tray.addNumber(e, 4);
        return tray.length;
    }

    public int end(int n) {
        if (n < 0 || n > tray.length) {
            return WRONG;
        }
        tray.length = n;
        return n;
    }

    public int declare() {
        place = NONE;
        if (declared) {
            return CLOSED;
        }
        int length = emptyTray();
        if (length > TEXT_ROOM) {
            place = TEXT_ROOM;
            return -1;
        }
        words.scan(tray.data, length);
        if (!parser.classText()) {
            place = parser.place;
            return -1;
        }
        if (!coder.declarations()) {
            place = coder.place;
            return -2;
        }
        if (!store.settle()) {
            return FULL;
        }
        journal.since = store.next;
        declared = true;
        return types.classes;
    }

    public int place() {
        return place;
    }

    public int kind() {
        if (!opened()) {
            return CLOSED;
        }
        int length = emptyTray();
        int pairs = types.pairs(tray.data, 0, length);
        int base = types.base(tray.data, pairs, length);
        if (base < 0) {
            return UNKNOWN;
        }
        int type = types.makeArray(base, pairs);
        return type < 0 ? FULL : type;
    }

    public int kinds() {
        return declared ? types.count : 0;
    }

    public int fits(int k, int j) {
        if (!opened()) {
            return CLOSED;
        }
        if (!types.exists(k) || !types.exists(j)) {
            return UNKNOWN;
        }
        return types.fit(k, j) ? 1 : 0;
    }

    public int fields(int k) {
        if (!opened()) {
            return CLOSED;
        }
        return types.exists(k) ? types.fieldsOf(k) : UNKNOWN;
    }

    public int field(int k, int i) {
        if (!opened()) {
            return CLOSED;
        }
        return types.hasField(k, i) ? types.fieldType[k * FIELDS + i] : UNKNOWN;
    }

    public int named(int k) {
        if (!opened()) {
            return CLOSED;
        }
        int word = words.find(tray.data, 0, emptyTray());
        int i = types.exists(k) && word >= 0 ? types.fieldNamed(k, word) : NONE;
        return i < 0 ? UNKNOWN : i;
    }

    public int begin() {
        if (!opened()) {
            return CLOSED;
        }
        return store.start() ? store.lastAct : FULL;
    }

    public boolean use(int act) {
        Act chosen = opened() ? store.actOf(act) : null;
        if (chosen == null) {
            return false;
        }
        store.view = chosen;
        return true;
    }

    public boolean view(int version) {
        if (!opened() || version < store.oldest || version > store.newest) {
            return false;
        }
        store.showVersion(version);
        return true;
    }

    public int keep(int act) {
        if (!opened()) {
            return CLOSED;
        }
        Act kept = store.actOf(act);
        if (kept == null) {
            return UNKNOWN;
        }
        int conflict = store.conflict(kept);
        if (conflict >= 0) {
            clash = conflict;
            return WRONG;
        }
        if (store.newest >= VERSIONS || !journal.writeCommit(kept)) {
            return FULL;
        }
        store.commit(kept);
        clash = NONE;
        return store.newest;
    }

    public int clash() {
        return clash;
    }

    public boolean drop(int act) {
        Act dropped = opened() ? store.actOf(act) : null;
        if (dropped == null) {
            return false;
        }
        store.discard(dropped);
        return true;
    }

    public int newest() {
        return opened() ? store.newest : NONE;
    }

    public int make(int k) {
        if (!changing()) {
            return CLOSED;
        }
        if (!types.exists(k)) {
            return UNKNOWN;
        }
        if (types.sort[k] != IS_CLASS) {
            return WRONG;
        }
        int size = types.fieldsOf(k);
        return store.room(1, size) ? store.create(k, size) : FULL;
    }

    public int argument(int kind, long bits) {
        if (kind < 0 || kind > OBJECT) {
            return WRONG;
        }
        if (kind == OBJECT ? bits < 0L || bits > MOST_INT : !Types.hasBits(kind, bits)) {
            return WRONG;
        }
        if (arguments >= ARGUMENTS) {
            return FULL;
        }
        argumentKinds[arguments] = kind;
        argumentBits[arguments] = bits;
        arguments++;
        return arguments;
    }

    public int record(int k) {
        if (!changing()) {
            return CLOSED;
        }
        int count = arguments;
        arguments = 0;
        if (!types.exists(k) || !argumentsAlive(count)) {
            return UNKNOWN;
        }
        if (types.sort[k] != IS_RECORD || types.fieldsOf(k) != count) {
            return WRONG;
        }
        for (int i = 0; i < count; i++) {
            if (!suits(argumentKinds[i], argumentBits[i], types.fieldType[k * FIELDS + i])) {
                return WRONG;
            }
        }
        if (!store.room(1, count)) {
            return FULL;
        }
        int t = store.create(k, count);
        for (int i = 0; i < count; i++) {
            store.fill(t, i, Types.cast(argumentBits[i], argumentKinds[i], types.fieldType[k * FIELDS + i]));
        }
        return t;
    }

    public int array(int k, int n) {
        if (!changing()) {
            return CLOSED;
        }
        if (!types.exists(k)) {
            return UNKNOWN;
        }
        if (n < 0) {
            return NEGATIVE;
        }
        if (n > ELEMENTS || !store.room(1, n)) {
            return FULL;
        }
        int type = types.makeArray(k, 1);
        return type < 0 ? FULL : store.create(type, n);
    }

    public int text() {
        if (!opened()) {
            return CLOSED;
        }
        int length = emptyTray();
        if (length > LETTERS) {
            return WRONG;
        }
        for (int i = 0; i < length; i++) {
            if (!Words.isLetter(tray.data[i])) {
                return WRONG;
            }
        }
        int word = words.find(tray.data, 0, length);
        if (word >= 0 && store.textOf[word] > 0) {
            return store.textOf[word];
        }
        if (!store.room(1, 0)) {
            return FULL;
        }
        word = words.intern(tray.data, 0, length);
        return word < 0 ? FULL : store.addText(word);
    }

    public int constant(int k, int place) {
        if (!opened()) {
            return CLOSED;
        }
        if (!types.exists(k)) {
            return UNKNOWN;
        }
        if (types.sort[k] != IS_ENUM) {
            return WRONG;
        }
        if (place < 0 || place >= types.constantsOf(k)) {
            return OUTSIDE;
        }
        return types.constantFirst[k] + place + 1;
    }

    public int kindOf(int t) {
        int wrong = missing(t);
        return wrong != 0 ? wrong : store.kind[t];
    }

    public int size(int t) {
        int wrong = missing(t);
        if (wrong != 0) {
            return wrong;
        }
        return store.isArray(t) || store.kind[t] == TEXT ? store.size[t] : WRONG;
    }

    public int letter(int t, int i) {
        int wrong = missing(t);
        if (wrong != 0) {
            return wrong;
        }
        if (store.kind[t] != TEXT) {
            return WRONG;
        }
        if (i < 0 || i >= store.size[t]) {
            return OUTSIDE;
        }
        return words.letterOf(store.place[t], i);
    }

    public long get(int t, int i) {
        return lookAt(t, i, false);
    }

    public int put(int t, int i, int kind, long bits) {
        int wrong = missingForChange(t, kind, bits);
        if (wrong != 0) {
            return wrong;
        }
        if (!store.hasFields(t)) {
            return WRONG;
        }
        if (i < 0 || i >= store.size[t]) {
            return UNKNOWN;
        }
        int type = types.slotType(store.kind[t], i);
        if (!suits(kind, bits, type)) {
            return WRONG;
        }
        if (types.sort[store.kind[t]] == IS_RECORD) {
            return FIXED;
        }
        return store.change(t, i, Types.cast(bits, kind, type)) ? 0 : FULL;
    }

    public long element(int t, int i) {
        return lookAt(t, i, true);
    }

    public int set(int t, int i, int kind, long bits) {
        int wrong = missingForChange(t, kind, bits);
        if (wrong != 0) {
            return wrong;
        }
        if (!store.isArray(t)) {
            return WRONG;
        }
        int type = types.element[store.kind[t]];
        if (!suits(kind, bits, type)) {
            return WRONG;
        }
        if (i < 0 || i >= store.size[t]) {
            return OUTSIDE;
        }
        return store.change(t, i, Types.cast(bits, kind, type)) ? 0 : FULL;
    }

    public int code() {
        return code;
    }

    public int copy(int a, int i, int b, int j, int n) {
        if (!changing()) {
            return CLOSED;
        }
        if (isGone(a) || isGone(b)) {
            return UNKNOWN;
        }
        if (a == 0 || b == 0) {
            return IS_NULL;
        }
        if (!store.isArray(a) || !store.isArray(b) || !types.alike(store.kind[a], store.kind[b])) {
            return WRONG;
        }
        if (!hasRange(a, i, n) || !hasRange(b, j, n)) {
            return OUTSIDE;
        }
        if (n == 0) {
            return 0;
        }
        if (!store.claim(b)) {
            return FULL;
        }
        return store.copyCells(a, i, b, j, n) ? 0 : UNFIT;
    }

    public int cloned(int t) {
        if (!changing()) {
            return CLOSED;
        }
        int wrong = missing(t);
        if (wrong != 0) {
            return wrong;
        }
        if (!store.isArray(t)) {
            return WRONG;
        }
        int size = store.size[t];
        if (!store.room(1, size)) {
            return FULL;
        }
        store.touch(t);
        int u = store.create(store.kind[t], size);
        store.copyCells(t, 0, u, 0, size);
        return u;
    }

    public int root(int i, int t) {
        if (!changing()) {
            return CLOSED;
        }
        if (isGone(t)) {
            return UNKNOWN;
        }
        if (i < 0 || i >= ROOTS) {
            return OUTSIDE;
        }
        store.view.roots[i] = t;
        store.view.rootsChanged |= 1 << i;
        return 0;
    }

    public int rootAt(int i) {
        if (!viewed()) {
            return CLOSED;
        }
        if (i < 0 || i >= ROOTS) {
            return OUTSIDE;
        }
        store.view.rootsRead |= 1 << i;
        return store.view.roots[i];
    }

    public boolean alive(int t) {
        return viewed() && store.isAlive(t);
    }

    public int call(int t, int steps) {
        machine.forget();
        if (!viewed()) {
            return CLOSED;
        }
        int word = words.find(tray.data, 0, emptyTray());
        int count = arguments;
        arguments = 0;
        if (isGone(t) || !argumentsAlive(count)) {
            return UNKNOWN;
        }
        if (t == 0) {
            return IS_NULL;
        }
        if (steps < 0 || steps > STEPS || !store.hasFields(t)) {
            return WRONG;
        }
        int method = word < 0 ? NONE : types.bodyOf(store.kind[t], word);
        if (method < 0 || types.parametersOf(method) != count) {
            return WRONG;
        }
        for (int i = 0; i < count; i++) {
            int type = types.methodTypes[method * SIGNATURE + 1 + i];
            if (!suits(argumentKinds[i], argumentBits[i], type)) {
                return WRONG;
            }
            machine.preset(i + 1, Types.cast(argumentBits[i], argumentKinds[i], type));
        }
        machine.preset(0, t);
        return machine.runCall(types.methodCode[method], count, steps);
    }

    public long answered() {
        return machine.answered;
    }

    public int ask(int steps) {
        place = NONE;
        machine.steps = 0;
        if (!viewed()) {
            return CLOSED;
        }
        int length = emptyTray();
        if (steps < 0 || steps > STEPS) {
            return WRONG;
        }
        words.scan(tray.data, length);
        if (!parser.query()) {
            place = parser.place;
            return -21;
        }
        if (!coder.query()) {
            place = coder.place;
            return -22;
        }
        return store.addTexts() ? machine.runQuery(steps) : FULL;
    }

    public long answer(int r, int c) {
        return answers.value(r, c);
    }

    public int answerKind(int c) {
        return answers.kindOfColumn(c);
    }

    public int steps() {
        return machine.steps;
    }

    public int range(int k, int i, long low, long high) {
        if (!viewed()) {
            return CLOSED;
        }
        if (!types.hasField(k, i)) {
            return UNKNOWN;
        }
        int type = types.fieldType[k * FIELDS + i];
        if (type > DOUBLE || !Types.hasBits(type, low) || !Types.hasBits(type, high)) {
            return WRONG;
        }
        return answers.findRange(k, i, Types.key(low, type), Types.key(high, type));
    }

    public int found(int n) {
        return answers.objectFound(n);
    }

    public int write(int t) {
        int wrong = missing(t);
        return wrong != 0 ? wrong : graphs.writeGraph(t);
    }

    public int at(int i) {
        return graphs.written.byteAt(i);
    }

    public int read() {
        place = NONE;
        if (!changing()) {
            return CLOSED;
        }
        int result = graphs.readGraph(tray.data, emptyTray());
        place = result == BAD_GRAPH ? graphs.place : NONE;
        return result;
    }

    public int same(int t, int u) {
        int wrong = missingPair(t, u);
        if (wrong != 0) {
            return wrong;
        }
        return graphs.sameGraphs(t, u) ? 1 : 0;
    }

    public int patch(int t, int u) {
        int wrong = missingPair(t, u);
        if (wrong != 0) {
            return wrong;
        }
        if (store.kind[t] != store.kind[u] || store.size[t] != store.size[u] || !store.hasCells(t)) {
            return WRONG;
        }
        return graphs.makePatch(t, u);
    }

    public long row(int r, int what) {
        return graphs.rowPart(r, what);
    }

    public int apply() {
        return changing() ? graphs.applyPatch() : CLOSED;
    }

    public int sweep(int version) {
        if (!opened()) {
            return CLOSED;
        }
        if (version < store.oldest || version > store.newest) {
            return UNKNOWN;
        }
        return store.isNeededBefore(version) ? WRONG : journal.collect(version);
    }

    public int logged() {
        return journal.log.length;
    }

    public int logAt(int i) {
        return journal.log.byteAt(i);
    }

    public boolean poke(int i, int mask) {
        return closed && journal.damage(i, mask);
    }

    public boolean crash(int n) {
        if (!opened() || n < 0) {
            return false;
        }
        closed = true;
        journal.cut(n);
        store.restart();
        types.cut();
        arguments = 0;
        place = NONE;
        clash = NONE;
        code = 0;
        machine.forget();
        answers.forget();
        graphs.forget();
        return true;
    }

    public int reopen() {
        if (!closed) {
            return CLOSED;
        }
        if (journal.openings >= OPENINGS) {
            return FULL;
        }
        journal.restore();
        closed = false;
        return store.newest;
    }

    private boolean opened() {
        return declared && !closed;
    }

    private boolean viewed() {
        return opened() && store.view != null;
    }

    private boolean changing() {
        return viewed() && store.view.number > 0;
    }

    private int emptyTray() {
        int length = tray.length;
        tray.length = 0;
        return length;
    }

    private boolean isGone(int t) {
        return t != 0 && !store.isAlive(t);
    }

    private int missing(int t) {
        if (!viewed()) {
            return CLOSED;
        }
        if (isGone(t)) {
            return UNKNOWN;
        }
        return t == 0 ? IS_NULL : 0;
    }

    private int missingPair(int t, int u) {
        if (!viewed()) {
            return CLOSED;
        }
        if (isGone(t) || isGone(u)) {
            return UNKNOWN;
        }
        return t == 0 || u == 0 ? IS_NULL : 0;
    }

    private int missingForChange(int t, int kind, long bits) {
        if (!changing()) {
            return CLOSED;
        }
        if (isGone(t) || !types.exists(kind) || kind == OBJECT && !isReference(bits)) {
            return UNKNOWN;
        }
        return t == 0 ? IS_NULL : 0;
    }

    private long lookAt(int t, int i, boolean inArray) {
        int wrong = missing(t);
        if (wrong == 0 && !(inArray ? store.isArray(t) : store.hasFields(t))) {
            wrong = WRONG;
        }
        if (wrong == 0 && (i < 0 || i >= store.size[t])) {
            wrong = inArray ? OUTSIDE : UNKNOWN;
        }
        code = -wrong;
        return wrong == 0 ? store.readCell(t, i) : 0L;
    }

    private boolean isReference(long bits) {
        return bits == 0L || bits > 0L && bits <= OBJECTS && store.isAlive((int) bits);
    }

    private boolean argumentsAlive(int count) {
        for (int i = 0; i < count; i++) {
            if (argumentKinds[i] == OBJECT && !isReference(argumentBits[i])) {
                return false;
            }
        }
        return true;
    }

    private boolean suits(int kind, long bits, int type) {
        if (kind == OBJECT) {
            return type >= OBJECT && (bits == 0L || types.fit(store.kind[(int) bits], type));
        }
        return kind <= DOUBLE && type <= DOUBLE && Types.hasBits(kind, bits) && types.fit(kind, type);
    }

    private boolean hasRange(int t, int i, int n) {
        return n >= 0 && i >= 0 && (long) i + n <= store.size[t];
    }

    /** Bytes with room for a fixed number of them; what is added beyond the room is only counted. */
    private static final class Bytes {
        final byte[] data;
        int length;

        Bytes(int room) {
            data = new byte[room];
        }

        void add(int value) {
            if (length < data.length) {
                data[length] = (byte) value;
            }
            length++;
        }

        void addNumber(long value, int bytes) {
            for (int shift = 8 * bytes - 8; shift >= 0; shift -= 8) {
                add((int) (value >>> shift));
            }
        }

        void addShort(int value) {
            int rest = value;
            for (int n = 0; n < 4 && rest > 127; n++) {
                add(rest & 127 | 128);
                rest = rest >>> 7;
            }
            add(rest);
        }

        int byteAt(int i) {
            return i < 0 || i >= length || i >= data.length ? NONE : data[i] & 255;
        }

        long numberAt(int i, int bytes) {
            return numberIn(data, i, bytes);
        }

        static long numberIn(byte[] data, int i, int bytes) {
            long value = 0L;
            for (int n = i; n < i + bytes; n++) {
                value = value << 8 | (n < 0 || n >= data.length ? 0 : data[n] & 255);
            }
            return value;
        }
    }

    /** Each name, keyword and text of all texts once, and the tokens of the text that was read last. */
    private static final class Words {
        private final byte[] letters = new byte[WORD_ROOM];
        private final int[] start = new int[WORDS + 1];
        private final int[] chain = new int[WORDS];
        private final int[] heads = new int[HEADS];
        private int count;
        private final int[] kind = new int[TOKENS];
        private final int[] at = new int[TOKENS];
        private final long[] value = new long[TOKENS];
        private int tokens;
        private byte[] source = letters;
        private int end;

        Words() {
            int from = 0;
            byte[] known = new byte[KNOWN_WORDS.length()];
            for (int i = 0; i < known.length; i++) {
                known[i] = (byte) KNOWN_WORDS.charAt(i);
                if (known[i] == ' ') {
                    intern(known, from, i - from);
                    from = i + 1;
                }
            }
        }

        static boolean isLetter(int b) {
            return b >= 32 && b <= 126;
        }

        int find(byte[] text, int from, int length) {
            int word = heads[hash(text, from, length)] - 1;
            for (int n = 0; n < WORDS && word >= 0; n++) {
                if (matches(word, text, from, length)) {
                    return word;
                }
                word = chain[word] - 1;
            }
            return NONE;
        }

        int intern(byte[] text, int from, int length) {
            int word = find(text, from, length);
            if (word >= 0) {
                return word;
            }
            if (count >= WORDS || start[count] + length > WORD_ROOM) {
                return NONE;
            }
            System.arraycopy(text, from, letters, start[count], length);
            int hash = hash(text, from, length);
            chain[count] = heads[hash];
            count++;
            heads[hash] = count;
            start[count] = start[count - 1] + length;
            return count - 1;
        }

        private boolean matches(int word, byte[] text, int from, int length) {
            if (start[word + 1] - start[word] != length) {
                return false;
            }
            for (int i = 0; i < length; i++) {
                if (letters[start[word] + i] != text[from + i]) {
                    return false;
                }
            }
            return true;
        }

        private static int hash(byte[] text, int from, int length) {
            int hash = length;
            for (int i = from; i < from + length; i++) {
                hash = hash * 31 + text[i];
            }
            return (hash ^ hash >>> 10) & HEADS - 1;
        }

        int lengthOf(int word) {
            return start[word + 1] - start[word];
        }

        int letterOf(int word, int i) {
            return letters[start[word] + i];
        }

        int compare(int a, int b) {
            int shorter = Math.min(lengthOf(a), lengthOf(b));
            for (int i = 0; i < shorter; i++) {
                if (letterOf(a, i) != letterOf(b, i)) {
                    return letterOf(a, i) - letterOf(b, i);
                }
            }
            return lengthOf(a) - lengthOf(b);
        }

        int kindAt(int token) {
            return token < 0 || token >= tokens ? T_END : kind[token];
        }

        int positionOf(int token) {
            return token < 0 || token >= tokens ? end : at[token];
        }

        long valueOf(int token) {
            return value[token];
        }

        int wordOf(int token) {
            return (int) value[token];
        }

        boolean isTypeAt(int token) {
            int word = token < tokens ? kind[token] : T_END;
            return word == T_NAME || word >= K_BOOLEAN && word <= K_DOUBLE;
        }

        /** Reads the tokens of a text up to the first bytes that are no token. */
        void scan(byte[] text, int length) {
            source = text;
            end = length;
            tokens = 0;
            int i = 0;
            for (int n = 0; n <= length; n++) {
                i = skipBlanks(i);
                if (i >= end) {
                    break;
                }
                int next = tokens < TOKENS - 1 ? token(i) : NONE;
                if (next < 0) {
                    add(T_BAD, i, 0L);
                    return;
                }
                i = next;
            }
            add(T_END, length, 0L);
        }

        private int skipBlanks(int from) {
            int i = from;
            while (i < end && (source[i] == 32 || source[i] == 9 || source[i] == 10 || source[i] == 13)) {
                i++;
            }
            return i;
        }

        private int add(int tokenKind, int position, long tokenValue) {
            if (tokens < TOKENS) {
                kind[tokens] = tokenKind;
                at[tokens] = position;
                value[tokens] = tokenValue;
                tokens++;
            }
            return NONE;
        }

        private int byteAt(int i) {
            return i < end ? source[i] : 0;
        }

        /** Adds the token that begins here and tells where it ends, or that there is none. */
        private int token(int i) {
            int first = byteAt(i);
            if (isDigit(first)) {
                return number(i);
            }
            if (isNamePart(first)) {
                return name(i);
            }
            if (first == '\'') {
                return character(i);
            }
            return first == '"' ? quoted(i) : symbol(i);
        }

        private static boolean isDigit(int b) {
            return b >= '0' && b <= '9';
        }

        private static boolean isNamePart(int b) {
            return b >= 'a' && b <= 'z' || b >= 'A' && b <= 'Z' || b == '_' || isDigit(b);
        }

        private int name(int i) {
            int j = i;
            while (j < end && isNamePart(source[j])) {
                j++;
            }
            int word = j - i > NAME_LENGTH ? NONE : intern(source, i, j - i);
            if (word < 0) {
                return NONE;
            }
            add(word < KEYWORDS ? word : T_NAME, i, word);
            return j;
        }

        private int digitsEnd(int i) {
            int j = i;
            while (j < end && isDigit(source[j])) {
                j++;
            }
            return j;
        }

        private int number(int i) {
            int j = digitsEnd(i);
            if (byteAt(j) == '.' && isDigit(byteAt(j + 1))) {
                return decimal(i, j);
            }
            boolean isLong = byteAt(j) == 'L';
            long most = isLong ? MOST_LONG : MOST_INT;
            long number = 0L;
            for (int n = i; n < j; n++) {
                int digit = source[n] - '0';
                if (number > (most - digit) / 10L) {
                    return NONE;
                }
                number = number * 10L + digit;
            }
            add(isLong ? T_LONG : T_INT, i, number);
            return isLong ? j + 1 : j;
        }

        private int decimal(int i, int point) {
            int j = digitsEnd(point + 1);
            if (j - i - 1 > DIGITS) {
                return NONE;
            }
            long number = 0L;
            long power = 1L;
            for (int n = i; n < j; n++) {
                if (n != point) {
                    number = number * 10L + (source[n] - '0');
                    power = n > point ? power * 10L : power;
                }
            }
            add(T_DOUBLE, i, Types.encode((double) number / (double) power, 52, 1023));
            return j;
        }

        private int character(int i) {
            int letter = byteAt(i + 1);
            if (!isLetter(letter) || letter == '\'' || letter == '\\' || byteAt(i + 2) != '\'') {
                return NONE;
            }
            add(T_CHAR, i, letter);
            return i + 3;
        }

        private int quoted(int i) {
            int j = i + 1;
            while (j < end && isLetter(source[j]) && source[j] != '"' && source[j] != '\\') {
                j++;
            }
            int length = j - i - 1;
            int word = byteAt(j) != '"' || length > LITERAL_LENGTH ? NONE : intern(source, i + 1, length);
            if (word < 0) {
                return NONE;
            }
            add(T_TEXT, i, word);
            return j + 1;
        }

        private int symbol(int i) {
            int first = byteAt(i);
            int index = first > 0 ? SYMBOLS.indexOf((char) first) : NONE;
            if (index < 0) {
                return NONE;
            }
            int longer = longerSymbol(first, byteAt(i + 1), byteAt(i + 2));
            add(longer < 0 ? S_FIRST + index : longer, i, 0L);
            return longer < 0 ? i + 1 : longer == S_RIGHT_ZERO ? i + 3 : i + 2;
        }

        private static int longerSymbol(int first, int second, int third) {
            if (second == '=') {
                switch (first) {
                    case '<': return S_AT_MOST;
                    case '>': return S_AT_LEAST;
                    case '=': return S_EQUAL;
                    case '!': return S_UNEQUAL;
                    default: return NONE;
                }
            }
            if (first != second) {
                return NONE;
            }
            switch (first) {
                case '<': return S_LEFT;
                case '>': return third == '>' ? S_RIGHT_ZERO : S_RIGHT;
                case '&': return S_BOTH;
                case '|': return S_EITHER;
                default: return NONE;
            }
        }
    }

    /** The types, the members of the classes, and the bits of plain values. */
    private static final class Types {
        private final Words words;
        private int count;
        private int classes;
        private int textCount;
        private final int[] sort = new int[TYPES];
        private final int[] element = new int[TYPES];
        private final int[] arrayOf = new int[TYPES];
        private final int[] name = new int[KINDS];
        private final int[] parent = new int[KINDS];
        private final long[] above = new long[KINDS];
        private final int[] fieldCount = new int[KINDS];
        private final int[] fieldName = new int[KINDS * FIELDS];
        private final int[] fieldType = new int[KINDS * FIELDS];
        private final int[] methodFirst = new int[KINDS + 1];
        private final int[] methodName = new int[ALL_METHODS];
        private final int[] methodTypes = new int[ALL_METHODS * SIGNATURE];
        private final int[] methodCode = new int[ALL_METHODS];
        private final int[] constantFirst = new int[KINDS + 1];
        private final int[] constantName = new int[ALL_CONSTANTS + 1];
        private final int[] cache = new int[2 * CACHE];

        Types(Words words) {
            this.words = words;
        }

        /** Forgets all classes. */
        void start() {
            count = 0;
            classes = 0;
            for (int type = 0; type < FIRST_CLASS; type++) {
                add(type <= DOUBLE ? IS_PLAIN : type == OBJECT ? IS_OBJECT : IS_TEXT, NONE);
            }
            name[OBJECT] = W_OBJECT;
            name[TEXT] = W_TEXT;
            methodFirst[FIRST_CLASS] = 0;
            constantFirst[FIRST_CLASS] = 0;
            Arrays.fill(cache, NONE);
        }

        private void add(int typeSort, int elementType) {
            sort[count] = typeSort;
            element[count] = elementType;
            arrayOf[count] = NONE;
            count++;
        }

        void addClass(int word, int typeSort) {
            int type = count;
            name[type] = word;
            parent[type] = NONE;
            above[type] = 0L;
            fieldCount[type] = 0;
            add(typeSort, NONE);
            classes++;
        }

        /** The array types that only objects have brought are lost by a crash. */
        void cut() {
            for (int type = textCount; type < count; type++) {
                arrayOf[element[type]] = NONE;
            }
            count = textCount;
        }

        boolean exists(int type) {
            return type >= 0 && type < count;
        }

        boolean isClass(int type) {
            return type >= FIRST_CLASS && type < FIRST_CLASS + classes;
        }

        boolean hasCells(int type) {
            return sort[type] == IS_CLASS || sort[type] == IS_RECORD || sort[type] == IS_ARRAY;
        }

        /** The type whose name this is. */
        int typeNamed(int word) {
            for (int type = OBJECT; type < FIRST_CLASS + classes; type++) {
                if (name[type] == word) {
                    return type;
                }
            }
            return NONE;
        }

        static long bit(int type) {
            return 1L << type - FIRST_CLASS;
        }

        boolean isBelow(int type, int other) {
            int a = type;
            int b = other;
            for (int n = 0; n <= PAIRS; n++) {
                if (a == b || b == OBJECT && a >= OBJECT) {
                    return true;
                }
                int end = FIRST_CLASS + classes;
                if (a >= FIRST_CLASS && a < end && b >= FIRST_CLASS && b < end) {
                    return (above[a] >>> b - FIRST_CLASS & 1L) != 0L;
                }
                if (sort[a] != IS_ARRAY || sort[b] != IS_ARRAY || element[a] < OBJECT || element[b] < OBJECT) {
                    return false;
                }
                a = element[a];
                b = element[b];
            }
            return false;
        }

        boolean fit(int type, int other) {
            if (type == other) {
                return true;
            }
            if (type <= DOUBLE || other <= DOUBLE) {
                return widens(type, other);
            }
            return isBelow(type, other);
        }

        static boolean widens(int type, int other) {
            return type > BOOLEAN && type < other && other <= DOUBLE && other != CHAR;
        }

        boolean castable(int type, int other) {
            if (isBelow(type, other) || isBelow(other, type)) {
                return true;
            }
            return sort[type] == IS_INTERFACE && isOpen(other) || sort[other] == IS_INTERFACE && isOpen(type);
        }

        private boolean isOpen(int type) {
            return sort[type] == IS_CLASS || sort[type] == IS_ABSTRACT || sort[type] == IS_INTERFACE;
        }

        /** Whether elements may be copied from one array type to the other. */
        boolean alike(int type, int other) {
            int a = element[type];
            int b = element[other];
            return a == b || a >= OBJECT && b >= OBJECT;
        }

        int pairs(byte[] text, int from, int to) {
            int i = from;
            while (i < to && text[i] == '[') {
                i++;
            }
            return i - from;
        }

        /** The type whose descriptor, without brackets, these bytes are. */
        int base(byte[] text, int from, int to) {
            if (to - from == 1) {
                return text[from] > 0 ? DESCRIPTORS.indexOf((char) text[from]) : NONE;
            }
            if (to - from < 3 || text[from] != 'L' || text[to - 1] != ';') {
                return NONE;
            }
            int word = words.find(text, from + 1, to - from - 2);
            return word < 0 ? NONE : typeNamed(word);
        }

        /** The existing type whose descriptor these bytes are. */
        int described(byte[] text, int from, int to) {
            int pairs = pairs(text, from, to);
            int type = base(text, from + pairs, to);
            for (int n = 0; n < pairs && type >= 0; n++) {
                type = arrayOf[type];
            }
            return type;
        }

        void describe(int type, Bytes out) {
            int base = type;
            int pairs = 0;
            for (int n = 0; n < PAIRS && sort[base] == IS_ARRAY; n++) {
                base = element[base];
                pairs++;
            }
            out.add(pairs + (base <= DOUBLE ? 1 : 2 + words.lengthOf(name[base])));
            for (int n = 0; n < pairs; n++) {
                out.add('[');
            }
            if (base <= DOUBLE) {
                out.add(DESCRIPTORS.charAt(base));
                return;
            }
            out.add('L');
            for (int i = 0; i < words.lengthOf(name[base]); i++) {
                out.add(words.letterOf(name[base], i));
            }
            out.add(';');
        }

        /** The array type with these many more pairs of brackets; it and the inner ones are created. */
        int makeArray(int base, int pairs) {
            int type = base;
            int depth = pairs;
            for (int n = 0; n < PAIRS && sort[type] == IS_ARRAY; n++) {
                type = element[type];
                depth++;
            }
            if (depth > PAIRS) {
                return NONE;
            }
            type = base;
            int missing = pairs;
            for (int n = 0; n < pairs && arrayOf[type] >= 0; n++) {
                type = arrayOf[type];
                missing--;
            }
            if (count + missing > TYPES) {
                return NONE;
            }
            for (int n = 0; n < missing; n++) {
                int inner = type;
                type = count;
                add(IS_ARRAY, inner);
                arrayOf[inner] = type;
            }
            return type;
        }

        int fieldsOf(int type) {
            return isClass(type) ? fieldCount[type] : 0;
        }

        boolean hasField(int type, int i) {
            return isClass(type) && i >= 0 && i < fieldCount[type];
        }

        int fieldNamed(int type, int word) {
            for (int i = 0; i < fieldsOf(type); i++) {
                if (fieldName[type * FIELDS + i] == word) {
                    return i;
                }
            }
            return NONE;
        }

        boolean addField(int type, int word, int valueType) {
            if (fieldCount[type] >= FIELDS) {
                return false;
            }
            fieldName[type * FIELDS + fieldCount[type]] = word;
            fieldType[type * FIELDS + fieldCount[type]] = valueType;
            fieldCount[type]++;
            return true;
        }

        /** The type of a field or element. */
        int slotType(int type, int i) {
            return sort[type] == IS_ARRAY ? element[type] : fieldType[type * FIELDS + i];
        }

        int constantsOf(int type) {
            return constantFirst[type + 1] - constantFirst[type];
        }

        int constants() {
            return constantFirst[FIRST_CLASS + classes];
        }

        int constantNamed(int type, int word) {
            for (int i = constantFirst[type]; i < constantFirst[type + 1]; i++) {
                if (constantName[i] == word) {
                    return i;
                }
            }
            return NONE;
        }

        int parametersOf(int method) {
            int n = 0;
            while (n < PARAMETERS && methodTypes[method * SIGNATURE + 1 + n] >= 0) {
                n++;
            }
            return n;
        }

        boolean sameTypes(int method, int other) {
            for (int i = 0; i < SIGNATURE; i++) {
                if (methodTypes[method * SIGNATURE + i] != methodTypes[other * SIGNATURE + i]) {
                    return false;
                }
            }
            return true;
        }

        int ownMethod(int type, int word) {
            for (int m = methodFirst[type]; m < methodFirst[type + 1]; m++) {
                if (methodName[m] == word) {
                    return m;
                }
            }
            return NONE;
        }

        private int inheritedMethod(int type, int word) {
            int owner = type;
            for (int n = 0; n < CLASSES && owner >= 0; n++) {
                int m = ownMethod(owner, word);
                if (m >= 0) {
                    return m;
                }
                owner = parent[owner];
            }
            return NONE;
        }

        /** The method that a call on an expression of this type means. */
        int methodOf(int type, int word) {
            int method = inheritedMethod(type, word);
            for (int face = FIRST_CLASS; face < FIRST_CLASS + classes && method < 0; face++) {
                if (sort[face] == IS_INTERFACE && isBelow(type, face)) {
                    method = ownMethod(face, word);
                }
            }
            return method;
        }

        /** The method that is executed on an object of this type. */
        int bodyOf(int type, int word) {
            int slot = 2 * (type * 131 + word & CACHE - 1);
            int key = word * KINDS + type;
            if (cache[slot] == key) {
                return cache[slot + 1];
            }
            int inherited = inheritedMethod(type, word);
            int method = inherited >= 0 && methodCode[inherited] >= 0 ? inherited : NONE;
            int bodies = inherited >= 0 ? 1 : 0;
            for (int face = FIRST_CLASS; face < FIRST_CLASS + classes && inherited < 0; face++) {
                int m = bodyIn(face, type, word);
                if (m >= 0 && !isReplaced(face, type, word)) {
                    method = m;
                    bodies++;
                }
            }
            cache[slot] = key;
            cache[slot + 1] = bodies == 1 ? method : NONE;
            return cache[slot + 1];
        }

        /** The method with a body in an interface of the type. */
        private int bodyIn(int face, int type, int word) {
            if (sort[face] != IS_INTERFACE || !isBelow(type, face)) {
                return NONE;
            }
            int m = ownMethod(face, word);
            return m >= 0 && methodCode[m] >= 0 ? m : NONE;
        }

        private boolean isReplaced(int face, int type, int word) {
            for (int other = FIRST_CLASS; other < FIRST_CLASS + classes; other++) {
                if (other != face && isBelow(other, face) && bodyIn(other, type, word) >= 0) {
                    return true;
                }
            }
            return false;
        }

        static boolean hasBits(int type, long bits) {
            switch (type) {
                case BOOLEAN: return bits == 0L || bits == 1L;
                case FLOAT: return bits >= 0L && bits <= 0xFFFFFFFFL && (bits & 0x7FFFFFFFL) <= 0x7F800000L;
                case DOUBLE: return (bits & MOST_LONG) <= 0x7FF0000000000000L;
                default: return narrow(bits, type) == bits;
            }
        }

        static long narrow(long value, int type) {
            switch (type) {
                case BYTE: return (byte) value;
                case SHORT: return (short) value;
                case CHAR: return (char) value;
                case INT: return (int) value;
                default: return value;
            }
        }

        /** A key whose order is that of the numbers; the two zeros have the same one. */
        static long key(long bits, int type) {
            if (type == DOUBLE) {
                return bits == LEAST_LONG ? 0L : orderKey(bits, type);
            }
            return type == FLOAT && bits == 0x80000000L ? 0L : orderKey(bits, type);
        }

        /** A key whose order is that of the numbers, with -0.0 before 0.0. */
        static long orderKey(long bits, int type) {
            if (type == DOUBLE) {
                return bits < 0L ? bits ^ MOST_LONG : bits;
            }
            return type == FLOAT && bits >= 0x80000000L ? (int) bits ^ MOST_INT : bits;
        }

        /** Converts a plain value to another plain type, as a cast does. */
        static long cast(long bits, int from, int to) {
            if (from == to || from == BOOLEAN || from > DOUBLE) {
                return bits;
            }
            if (from == FLOAT) {
                return castReal(decode(bits, 23, 127), to);
            }
            if (from == DOUBLE) {
                return castReal(decode(bits, 52, 1023), to);
            }
            if (to == FLOAT) {
                return encode((double) (float) bits, 23, 127);
            }
            return to == DOUBLE ? encode((double) bits, 52, 1023) : narrow(bits, to);
        }

        private static long castReal(double value, int to) {
            switch (to) {
                case LONG: return (long) value;
                case FLOAT: return encode((double) (float) value, 23, 127);
                case DOUBLE: return encode(value, 52, 1023);
                default: return narrow((int) value, to);
            }
        }

        /** The number with these bits of a float (width 23, bias 127) or double (52, 1023). */
        static double decode(long bits, int width, int bias) {
            int exponent = (int) (bits >>> width) & 2 * bias + 1;
            long digits = bits & (1L << width) - 1L;
            double value = 0x1p1023 * 2.0;
            if (exponent <= 2 * bias) {
                int power = Math.max(exponent, 1) - bias - width;
                value = (double) (exponent == 0 ? digits : digits | 1L << width);
                value = power < 0 ? shrink(value, -power) : grow(value, power);
            }
            boolean negative = (bits >>> (width == 52 ? 63 : 31) & 1L) != 0L;
            return negative ? value * (0.0 - 1.0) : value;
        }

        private static double grow(double start, int power) {
            double value = (power & 1) != 0 ? start * 2.0 : start;
            value = (power & 2) != 0 ? value * 4.0 : value;
            value = (power & 4) != 0 ? value * 16.0 : value;
            value = (power & 8) != 0 ? value * 256.0 : value;
            value = (power & 16) != 0 ? value * 0x1p16 : value;
            value = (power & 32) != 0 ? value * 0x1p32 : value;
            value = (power & 64) != 0 ? value * 0x1p64 : value;
            value = (power & 128) != 0 ? value * 0x1p128 : value;
            value = (power & 256) != 0 ? value * 0x1p256 : value;
            return (power & 512) != 0 ? value * 0x1p512 : value;
        }

        // The greatest factor comes last, so that only the last product can be subnormal and none is rounded.
        private static double shrink(double start, int power) {
            double value = (power & 1) != 0 ? start * 0.5 : start;
            value = (power & 2) != 0 ? value * 0.25 : value;
            value = (power & 4) != 0 ? value * 0.0625 : value;
            value = (power & 8) != 0 ? value * 0x1p-8 : value;
            value = (power & 16) != 0 ? value * 0x1p-16 : value;
            value = (power & 32) != 0 ? value * 0x1p-32 : value;
            value = (power & 64) != 0 ? value * 0x1p-64 : value;
            value = (power & 128) != 0 ? value * 0x1p-128 : value;
            value = (power & 256) != 0 ? value * 0x1p-256 : value;
            value = (power & 512) != 0 ? value * 0x1p-512 : value;
            return (power & 1024) != 0 ? value * 0x1p-1024 : value;
        }

        /** The bits of a number as a float (width 23, bias 127; the number must be one) or double (52, 1023). */
        static long encode(double value, int width, int bias) {
            boolean negative = value < 0.0 || value == 0.0 && 1.0 / value < 0.0;
            long sign = !negative ? 0L : width == 52 ? LEAST_LONG : 0x80000000L;
            double size = value < 0.0 ? 0.0 - value : value;
            if (size == 0.0) {
                return sign;
            }
            if (size * 0.5 == size) {
                return sign | 2L * bias + 1L << width;
            }
            // From here on the number is size times 2 to the power, and size comes to lie from 2^52 to 2^53.
            int power = 0;
            if (size >= 0x1p53) {
                if (size >= 0x1p564) { size *= 0x1p-512; power += 512; }
                if (size >= 0x1p308) { size *= 0x1p-256; power += 256; }
                if (size >= 0x1p180) { size *= 0x1p-128; power += 128; }
                if (size >= 0x1p116) { size *= 0x1p-64; power += 64; }
                if (size >= 0x1p84) { size *= 0x1p-32; power += 32; }
                if (size >= 0x1p68) { size *= 0x1p-16; power += 16; }
                if (size >= 0x1p60) { size *= 0x1p-8; power += 8; }
                if (size >= 0x1p56) { size *= 0x1p-4; power += 4; }
                if (size >= 0x1p54) { size *= 0x1p-2; power += 2; }
                if (size >= 0x1p53) { size *= 0x1p-1; power += 1; }
            } else {
                if (size < 0x1p-970) { size *= 0x1p128; power -= 128; }
                if (size < 0x1p-459) { size *= 0x1p512; power -= 512; }
                if (size < 0x1p-203) { size *= 0x1p256; power -= 256; }
                if (size < 0x1p-75) { size *= 0x1p128; power -= 128; }
                if (size < 0x1p-11) { size *= 0x1p64; power -= 64; }
                if (size < 0x1p21) { size *= 0x1p32; power -= 32; }
                if (size < 0x1p37) { size *= 0x1p16; power -= 16; }
                if (size < 0x1p45) { size *= 0x1p8; power -= 8; }
                if (size < 0x1p49) { size *= 0x1p4; power -= 4; }
                if (size < 0x1p51) { size *= 0x1p2; power -= 2; }
                if (size < 0x1p52) { size *= 0x1p1; power -= 1; }
            }
            long digits = (long) size;
            int exponent = power + 52 + bias;
            if (exponent < 1) {
                return sign | digits >>> 53 - width - exponent;
            }
            return sign | (long) exponent << width | digits >>> 52 - width & (1L << width) - 1L;
        }
    }

    /**
     * Reads class texts and queries by the grammar. The bodies and the parts of queries become items in the order in
     * which they are evaluated.
     */
    private static final class Parser {
        private final Words words;
        private final boolean[] typeNames = new boolean[WORDS];
        private int at;
        private int token;
        private int place = NONE;
        private final int[] itemOp = new int[2 * TOKENS];
        private final int[] itemToken = new int[2 * TOKENS];
        private final int[] itemCount = new int[2 * TOKENS];
        private int items;
        private final int[] operatorToken = new int[OPERATORS];
        private final int[] operatorHeight = new int[OPERATORS];
        private int operators;
        private final int[] nameToken = new int[CLASSES + 1];
        private final int[] headToken = new int[CLASSES + 1];
        private final int[] memberFirst = new int[CLASSES + 1];
        private int declarations;
        private final int[] memberToken = new int[MEMBERS + 1];
        private final int[] memberFrom = new int[MEMBERS + 1];
        private final int[] memberTo = new int[MEMBERS + 1];
        private int members;

        Parser(Words words) {
            this.words = words;
        }

        boolean classText() {
            restart();
            markTypeNames();
            for (int n = 0; n <= CLASSES && token != T_END; n++) {
                if (n == CLASSES || !declaration()) {
                    return refuse();
                }
            }
            memberFirst[declarations] = members;
            return true;
        }

        boolean query() {
            restart();
            if (!take(K_FROM)) {
                return refuse();
            }
            for (int n = 0; n <= SOURCES; n++) {
                if (n == SOURCES || !fromPart()) {
                    return refuse();
                }
                if (!take(S_COMMA)) {
                    break;
                }
            }
            if (token == K_WHERE && !part(I_WHERE) || token == K_ORDER && !part(I_ORDER)) {
                return refuse();
            }
            if (items > 0 && itemOp[items - 1] == I_ORDER && take(K_DOWN)) {
                itemCount[items - 1] = 1;
            }
            if (token != K_GIVE) {
                return refuse();
            }
            for (int n = 0; n <= COLUMNS && (n == 0 || token == S_COMMA); n++) {
                if (n == COLUMNS) {
                    goTo(at + 1);
                    return refuse();
                }
                if (!part(I_GIVE)) {
                    return refuse();
                }
            }
            return token == T_END || refuse();
        }

        private void restart() {
            goTo(0);
            place = NONE;
            items = 0;
            operators = 0;
            declarations = 0;
            members = 0;
        }

        private void markTypeNames() {
            for (int word = 0; word < WORDS; word++) {
                typeNames[word] = false;
            }
            typeNames[W_OBJECT] = true;
            typeNames[W_TEXT] = true;
            for (int i = 1; i < words.tokens; i++) {
                int before = words.kindAt(i - 1);
                boolean declares = before == K_CLASS || before == K_INTERFACE || before == K_ENUM || before == K_RECORD;
                if (declares && words.kindAt(i) == T_NAME) {
                    typeNames[words.wordOf(i)] = true;
                }
            }
        }

        private boolean refuse() {
            place = words.positionOf(at);
            return false;
        }

        private void goTo(int position) {
            at = position;
            token = at < words.tokens ? words.kind[at] : T_END;
        }

        private boolean take(int kind) {
            if (token != kind) {
                return false;
            }
            at++;
            token = at < words.tokens ? words.kind[at] : T_END;
            return true;
        }

        private void emit(int op, int token, int count) {
            if (items < itemOp.length) {
                itemOp[items] = op;
                itemToken[items] = token;
                itemCount[items] = count;
                items++;
            }
        }

        private boolean declaration() {
            memberFirst[declarations] = members;
            boolean marked = take(K_ABSTRACT);
            int word = token;
            if (word != K_CLASS && (marked || word != K_INTERFACE && word != K_ENUM && word != K_RECORD)) {
                return false;
            }
            goTo(at + 1);
            if (token != T_NAME) {
                return false;
            }
            nameToken[declarations] = at;
            goTo(at + 1);
            if (word == K_RECORD && !components()) {
                return false;
            }
            headToken[declarations] = at;
            declarations++;
            if (word == K_ENUM) {
                return constants();
            }
            return heads(word) && body(word);
        }

        private boolean heads(int word) {
            if (word == K_CLASS && take(K_EXTENDS) && !take(T_NAME)) {
                return false;
            }
            if (!take(word == K_INTERFACE ? K_EXTENDS : K_IMPLEMENTS)) {
                return true;
            }
            for (int n = 0; n < TOKENS; n++) {
                if (!take(T_NAME)) {
                    return false;
                }
                if (!take(S_COMMA)) {
                    return true;
                }
            }
            return false;
        }

        private boolean addMember(int token) {
            if (members >= MEMBERS) {
                return false;
            }
            memberToken[members] = token;
            memberFrom[members] = NONE;
            memberTo[members] = NONE;
            members++;
            return true;
        }

        private boolean constants() {
            if (!take(S_BODY)) {
                return false;
            }
            for (int n = 0; n < CONSTANTS; n++) {
                if (!addMember(at) || !take(T_NAME)) {
                    return false;
                }
                if (!take(S_COMMA)) {
                    return take(S_BODY_END);
                }
            }
            return false;
        }

        private boolean components() {
            if (!take(S_OPEN)) {
                return false;
            }
            if (take(S_CLOSE)) {
                return true;
            }
            for (int n = 0; n < TOKENS; n++) {
                if (!addMember(at) || !type() || !take(T_NAME)) {
                    return false;
                }
                if (!take(S_COMMA)) {
                    return take(S_CLOSE);
                }
            }
            return false;
        }

        private boolean body(int word) {
            if (!take(S_BODY)) {
                return false;
            }
            int methods = 0;
            for (int n = 0; n < MEMBERS && !take(S_BODY_END); n++) {
                int first = at;
                boolean marked = token == K_ABSTRACT || token == K_DEFAULT;
                boolean isFull = word != K_INTERFACE && methods == METHODS;
                if (isFull && (marked || word == K_RECORD) || !addMember(first)) {
                    return false;
                }
                goTo(marked ? at + 1 : at);
                if (!type() || !take(T_NAME)) {
                    return false;
                }
                if (word == K_CLASS && !marked && take(S_SEMICOLON)) {
                    continue;
                }
                if (isFull && token == S_OPEN) {
                    goTo(first);
                    return false;
                }
                if (!parameters() || !methodBody()) {
                    return false;
                }
                methods++;
            }
            return true;
        }

        private boolean parameters() {
            if (!take(S_OPEN)) {
                return false;
            }
            if (take(S_CLOSE)) {
                return true;
            }
            for (int n = 0; n < PARAMETERS; n++) {
                if (!type() || !take(T_NAME)) {
                    return false;
                }
                if (!take(S_COMMA)) {
                    return take(S_CLOSE);
                }
            }
            return false;
        }

        private boolean methodBody() {
            if (take(S_SEMICOLON)) {
                return true;
            }
            int word = at + 1;
            if (!take(S_BODY) || !take(K_RETURN)) {
                return false;
            }
            int start = items;
            emit(I_START, word, 0);
            int height = expression(1);
            if (height < 0 || !take(S_SEMICOLON) || !take(S_BODY_END)) {
                return false;
            }
            itemCount[start] = height;
            emit(I_RETURN, word, 0);
            memberFrom[members - 1] = start;
            memberTo[members - 1] = items;
            return true;
        }

        private boolean type() {
            if (!words.isTypeAt(at)) {
                return false;
            }
            goTo(at + 1);
            for (int n = 0; n <= PAIRS && token == S_SQUARE; n++) {
                if (n == PAIRS) {
                    return false;
                }
                goTo(at + 1);
                if (!take(S_SQUARE_END)) {
                    return false;
                }
            }
            return true;
        }

        private boolean fromPart() {
            int name = at;
            if (!take(T_NAME) || !take(K_IN)) {
                return false;
            }
            int start = items;
            emit(I_START, at, 0);
            int height = source(1);
            if (height < 0) {
                return false;
            }
            itemCount[start] = height;
            emit(I_FROM, name, 0);
            return true;
        }

        /** Reads a part of a query behind its keyword or comma. */
        private boolean part(int op) {
            goTo(at + 1);
            int first = at;
            int start = items;
            emit(I_START, first, 0);
            int height = expression(1);
            if (height < 0) {
                return false;
            }
            itemCount[start] = height;
            emit(op, first, 0);
            return true;
        }

        // The methods below return the height of what they read, or NONE if the token at the cursor is wrong there.
        private int expression(int depth) {
            if (depth > DEPTH) {
                return NONE;
            }
            if (token >= K_EXISTS && token <= K_SUM) {
                return quantifier(depth);
            }
            int height = operation(depth);
            if (height < 0 || token != S_QUESTION) {
                return height;
            }
            int question = at;
            emit(I_THEN, question, 0);
            goTo(at + 1);
            int first = expression(depth + 1);
            if (first < 0 || token != S_COLON) {
                return NONE;
            }
            emit(I_ELSE, question, 0);
            goTo(at + 1);
            int second = expression(depth + 1);
            if (second < 0) {
                return NONE;
            }
            emit(I_CHOICE, question, 0);
            return 1 + Math.max(height, Math.max(first, second));
        }

        private int quantifier(int depth) {
            goTo(at + 1);
            int name = at;
            if (depth == DEPTH || !take(T_NAME) || !take(K_IN)) {
                return NONE;
            }
            int source = source(depth + 1);
            if (source < 0 || !take(S_COLON)) {
                return NONE;
            }
            emit(I_BIND, name, 0);
            int body = expression(depth + 1);
            if (body < 0) {
                return NONE;
            }
            emit(I_QUANTIFIER, name, 0);
            return 1 + Math.max(source, body);
        }

        private int source(int depth) {
            int before = items;
            int height = unary(depth);
            if (items == before + 1 && itemOp[before] == I_NAME) {
                itemOp[before] = I_SOURCE;
            }
            return height;
        }

        /** How tightly a binary operator binds; 0 for other tokens. */
        private static int levelOf(int kind) {
            switch (kind) {
                case S_EITHER: return 1;
                case S_BOTH: return 2;
                case S_OR: return 3;
                case S_XOR: return 4;
                case S_AND: return 5;
                case S_EQUAL: case S_UNEQUAL: return 6;
                case S_LESS: case S_GREATER: case S_AT_MOST: case S_AT_LEAST: case K_INSTANCEOF: return TEST_LEVEL;
                case S_LEFT: case S_RIGHT: case S_RIGHT_ZERO: return SHIFT_LEVEL;
                case S_ADD: case S_SUBTRACT: return 9;
                case S_MULTIPLY: case S_DIVIDE: case S_REMAINDER: return 10;
                default: return 0;
            }
        }

        // A chain of binary operators is read with a stack of its own: recursion would go too deep.
        private int operation(int depth) {
            int base = operators;
            boolean tested = false;
            int height = unary(depth);
            for (int n = 0; n < TOKENS && height >= 0; n++) {
                int level = levelOf(token);
                if (level == 0 || tested && level >= TEST_LEVEL) {
                    break;
                }
                if (token == K_INSTANCEOF) {
                    height = reduce(base, SHIFT_LEVEL, height);
                    if (operators > base && levelOf(words.kindAt(operatorToken[operators - 1])) == TEST_LEVEL) {
                        break;
                    }
                    int word = at;
                    goTo(at + 1);
                    height = type() ? height + 1 : NONE;
                    emit(I_INSTANCE, word, 0);
                    tested = true;
                } else {
                    height = push(reduce(base, level, height)) ? unary(depth) : NONE;
                    tested = false;
                }
            }
            return height < 0 ? NONE : reduce(base, 1, height);
        }

        /** Emits the operators above the base that bind at least as tightly as the level. */
        private int reduce(int base, int level, int right) {
            int height = right;
            while (operators > base && levelOf(words.kindAt(operatorToken[operators - 1])) >= level) {
                operators--;
                emit(I_BINARY, operatorToken[operators], 0);
                height = 1 + Math.max(operatorHeight[operators], height);
            }
            return height;
        }

        private boolean push(int height) {
            if (operators >= OPERATORS) {
                return false;
            }
            if (token == S_BOTH || token == S_EITHER) {
                emit(I_BRANCH, at, 0);
            }
            operatorToken[operators] = at;
            operatorHeight[operators] = height;
            operators++;
            goTo(at + 1);
            return true;
        }

        private int unary(int depth) {
            if (depth > DEPTH) {
                return NONE;
            }
            int first = at;
            int word = token;
            boolean isCast = word == S_OPEN && words.isTypeAt(at + 1)
                && (words.kindAt(at + 1) != T_NAME || typeNames[words.wordOf(at + 1)]);
            if (!isCast && word != S_SUBTRACT && word != S_NOT && word != S_TILDE) {
                return postfix(depth);
            }
            goTo(at + 1);
            if (isCast && (depth == DEPTH || !type() || !take(S_CLOSE))) {
                return NONE;
            }
            int height = unary(depth + 1);
            if (height < 0) {
                return NONE;
            }
            emit(isCast ? I_CAST : I_UNARY, first, 0);
            return height + 1;
        }

        private int postfix(int depth) {
            int before = items;
            int height = primary(depth);
            for (int n = 0; n < TOKENS && height >= 0; n++) {
                if (token == S_DOT) {
                    height = selection(depth, height, before);
                } else if (token == S_SQUARE) {
                    height = index(depth, height);
                } else {
                    break;
                }
            }
            return height;
        }

        private int selection(int depth, int height, int before) {
            goTo(at + 1);
            int name = at;
            if (!take(T_NAME)) {
                return NONE;
            }
            if (token == S_OPEN) {
                return arguments(depth, name, height);
            }
            if (items == before + 1 && itemOp[before] == I_NAME) {
                itemOp[before] = I_OWNER;
            }
            emit(I_FIELD, name, 0);
            return height + 1;
        }

        private int index(int depth, int height) {
            int bracket = at;
            goTo(at + 1);
            int inner = expression(depth + 1);
            if (inner < 0 || !take(S_SQUARE_END)) {
                return NONE;
            }
            emit(I_INDEX, bracket, 0);
            return 1 + Math.max(height, inner);
        }

        private int arguments(int depth, int name, int height) {
            int most = height;
            int count = 0;
            goTo(at + 1);
            while (count < TOKENS && token != S_CLOSE) {
                if (count > 0 && !take(S_COMMA)) {
                    return NONE;
                }
                int inner = expression(depth + 1);
                if (inner < 0) {
                    return NONE;
                }
                most = Math.max(most, inner);
                count++;
            }
            goTo(at + 1);
            emit(I_CALL, name, count);
            return most + 1;
        }

        private int primary(int depth) {
            int first = at;
            int word = token;
            boolean isWord = word == K_TRUE || word == K_FALSE || word == K_NULL;
            if (isWord || word == K_THIS || word >= T_INT && word <= T_TEXT) {
                goTo(at + 1);
                emit(word == K_THIS ? I_THIS : I_LITERAL, first, 0);
                return 1;
            }
            if (word == T_NAME) {
                goTo(at + 1);
                boolean isCall = token == S_OPEN;
                emit(isCall ? I_SELF : I_NAME, first, 0);
                return isCall ? arguments(depth, first, 0) : 1;
            }
            if (word != S_OPEN) {
                return NONE;
            }
            goTo(at + 1);
            int height = expression(depth + 1);
            return height < 0 || !take(S_CLOSE) ? NONE : height;
        }
    }

    /** Checks what the grammar does not: the declarations, then the types of expressions; and writes their code. */
    private static final class Coder {
        private final Words words;
        private final Types types;
        private final Parser parser;
        private int place = NONE;
        private final int[] code = new int[CODE_ROOM];
        private int length;
        private int base;
        private final int[] stack = new int[2 * TOKENS];
        private int top;
        private int depth;
        private final int[] scopes = new int[3 * SCOPES];
        private int scopeCount;
        private final int[] jumps = new int[JUMPS];
        private int jumpCount;
        private int self = NONE;
        // The types of the columns of a query; the first one is also that of the method whose body is checked.
        private final int[] kinds = new int[COLUMNS];
        private int columns;
        private int orderKind = NONE;
        private boolean isDown;
        private final int[] seen = new int[WORDS];

        Coder(Words words, Types types, Parser parser) {
            this.words = words;
            this.types = types;
            this.parser = parser;
        }

        /** Declares the classes that the parser has read; false at the first error. */
        boolean declarations() {
            types.start();
            length = 0;
            emit(STOP);
            if (!classNames() || !classHeads() || !noCircles()) {
                return false;
            }
            addArrayTypes();
            if (!allMembers()) {
                return false;
            }
            for (int d = 0; d < parser.declarations; d++) {
                addFields(FIRST_CLASS + d);
            }
            for (int d = 0; d < parser.declarations; d++) {
                if (!overrides(d)) {
                    return false;
                }
            }
            for (int d = 0; d < parser.declarations; d++) {
                if (!hasBodies(FIRST_CLASS + d)) {
                    return wrong(parser.nameToken[d]);
                }
            }
            for (int d = 0; d < parser.declarations; d++) {
                if (!bodies(d)) {
                    return false;
                }
            }
            base = length;
            return true;
        }

        private boolean wrong(int token) {
            place = words.positionOf(token);
            return false;
        }

        private boolean classNames() {
            for (int d = 0; d < parser.declarations; d++) {
                int token = parser.nameToken[d];
                int word = words.wordOf(token);
                if (types.typeNamed(word) >= 0) {
                    return wrong(token);
                }
                types.addClass(word, sortOf(token));
            }
            return true;
        }

        private int sortOf(int token) {
            switch (words.kindAt(token - 1)) {
                case K_INTERFACE: return IS_INTERFACE;
                case K_ENUM: return IS_ENUM;
                case K_RECORD: return IS_RECORD;
                default: return token > 1 && words.kindAt(token - 2) == K_ABSTRACT ? IS_ABSTRACT : IS_CLASS;
            }
        }

        private boolean classHeads() {
            for (int d = 0; d < parser.declarations; d++) {
                int type = FIRST_CLASS + d;
                int token = parser.headToken[d];
                boolean isClass = types.sort[type] == IS_CLASS || types.sort[type] == IS_ABSTRACT;
                if (isClass && words.kindAt(token) == K_EXTENDS) {
                    int other = types.typeNamed(words.wordOf(token + 1));
                    boolean isParent = other >= 0 && (types.sort[other] == IS_CLASS || types.sort[other] == IS_ABSTRACT);
                    if (!isParent && other != OBJECT) {
                        return wrong(token + 1);
                    }
                    if (isParent) {
                        types.parent[type] = other;
                        types.above[type] |= Types.bit(other);
                    }
                    token += 2;
                }
                if (types.sort[type] != IS_ENUM && !interfaces(type, token)) {
                    return false;
                }
            }
            return true;
        }

        private boolean interfaces(int type, int head) {
            int token = head;
            for (int n = 0; n < TOKENS && words.kindAt(token) != S_BODY; n++) {
                token++;
                int other = types.typeNamed(words.wordOf(token));
                if (other < 0 || types.sort[other] != IS_INTERFACE || (types.above[type] & Types.bit(other)) != 0L) {
                    return wrong(token);
                }
                types.above[type] |= Types.bit(other);
                token++;
            }
            return true;
        }

        private boolean noCircles() {
            int end = FIRST_CLASS + types.classes;
            for (int middle = FIRST_CLASS; middle < end; middle++) {
                for (int type = FIRST_CLASS; type < end; type++) {
                    if ((types.above[type] & Types.bit(middle)) != 0L) {
                        types.above[type] |= types.above[middle];
                    }
                }
            }
            for (int d = 0; d < parser.declarations; d++) {
                if ((types.above[FIRST_CLASS + d] & Types.bit(FIRST_CLASS + d)) != 0L) {
                    return wrong(parser.nameToken[d]);
                }
            }
            for (int type = FIRST_CLASS; type < end; type++) {
                types.above[type] |= Types.bit(type);
            }
            return true;
        }

        /** Gives the array types of the text their numbers; in a text, only types have empty brackets. */
        private void addArrayTypes() {
            for (int i = 0; i < words.tokens; i++) {
                int type = words.isTypeAt(i) && isPair(i + 1) ? baseAt(i) : NONE;
                for (int token = i + 1; token < words.tokens && type >= 0 && isPair(token); token += 2) {
                    type = types.arrayOf[type] >= 0 ? types.arrayOf[type] : types.makeArray(type, 1);
                }
            }
            types.textCount = types.count;
        }

        private boolean isPair(int token) {
            return words.kindAt(token) == S_SQUARE && words.kindAt(token + 1) == S_SQUARE_END;
        }

        private int baseAt(int token) {
            int word = words.kindAt(token);
            return word == T_NAME ? types.typeNamed(words.wordOf(token)) : word - K_BOOLEAN;
        }

        /** The type that is named here, if it is known. */
        private int typeAt(int token) {
            int type = baseAt(token);
            for (int i = token + 1; i < words.tokens && type >= 0 && isPair(i); i += 2) {
                type = types.arrayOf[type];
            }
            return type;
        }

        private int behindType(int token) {
            int i = token + 1;
            while (i < words.tokens && isPair(i)) {
                i += 2;
            }
            return i;
        }

        private boolean allMembers() {
            for (int d = 0; d < parser.declarations; d++) {
                int type = FIRST_CLASS + d;
                types.methodFirst[type + 1] = types.methodFirst[type];
                types.constantFirst[type + 1] = types.constantFirst[type];
                for (int m = parser.memberFirst[d]; m < parser.memberFirst[d + 1]; m++) {
                    int token = parser.memberToken[m];
                    boolean isRight = types.sort[type] == IS_ENUM ? addConstant(type, token)
                        : isMethod(m) ? method(type, m) : checkField(d, m, token);
                    if (!isRight) {
                        return false;
                    }
                }
            }
            return true;
        }

        private boolean addConstant(int type, int token) {
            int word = words.wordOf(token);
            if (types.constantNamed(type, word) >= 0) {
                return wrong(token);
            }
            types.constantName[types.constantFirst[type + 1]] = word;
            types.constantFirst[type + 1]++;
            return true;
        }

        private int typeToken(int m) {
            int first = parser.memberToken[m];
            int word = words.kindAt(first);
            return word == K_ABSTRACT || word == K_DEFAULT ? first + 1 : first;
        }

        private boolean isMethod(int m) {
            return words.kindAt(behindType(typeToken(m)) + 1) == S_OPEN;
        }

        private boolean checkField(int d, int m, int token) {
            int name = behindType(token);
            int word = words.wordOf(name);
            if (typeAt(token) < 0) {
                return wrong(token);
            }
            if (types.typeNamed(word) >= 0) {
                return wrong(name);
            }
            int count = 0;
            int type = FIRST_CLASS + d;
            for (int n = 0; n < CLASSES && type >= 0; n++) {
                int owner = type - FIRST_CLASS;
                int end = owner == d ? m : parser.memberFirst[owner + 1];
                for (int i = parser.memberFirst[owner]; i < end; i++) {
                    if (!isMethod(i)) {
                        count++;
                        if (words.wordOf(behindType(parser.memberToken[i])) == word) {
                            return wrong(name);
                        }
                    }
                }
                type = types.parent[type];
            }
            return count < FIELDS || wrong(name);
        }

        private boolean method(int type, int m) {
            int token = typeToken(m);
            int name = behindType(token);
            if (typeAt(token) < 0) {
                return wrong(token);
            }
            if (!parameters(name + 2)) {
                return false;
            }
            int word = words.wordOf(name);
            if (types.ownMethod(type, word) >= 0 || types.methodFirst[type + 1] >= ALL_METHODS) {
                return wrong(name);
            }
            boolean hasBody = parser.memberFrom[m] >= 0;
            if (!isAllowed(types.sort[type], words.kindAt(parser.memberToken[m]), hasBody)) {
                return wrong(parser.memberToken[m]);
            }
            int method = types.methodFirst[type + 1];
            types.methodFirst[type + 1]++;
            types.methodName[method] = word;
            types.methodCode[method] = hasBody ? 0 : NONE;
            types.methodTypes[method * SIGNATURE] = typeAt(token);
            for (int i = 0; i < PARAMETERS; i++) {
                types.methodTypes[method * SIGNATURE + 1 + i] = i < scopeCount ? scopes[3 * i + 1] : NONE;
            }
            return true;
        }

        private static boolean isAllowed(int sort, int word, boolean hasBody) {
            boolean isAbstract = word == K_ABSTRACT;
            boolean isDefault = word == K_DEFAULT;
            if (sort == IS_INTERFACE) {
                return !isAbstract && isDefault == hasBody;
            }
            return !isDefault && isAbstract != hasBody && (!isAbstract || sort == IS_ABSTRACT);
        }

        /** Makes the parameters from this token on the names that are known. */
        private boolean parameters(int first) {
            int token = first;
            scopeCount = 0;
            for (int n = 0; n < PARAMETERS && words.kindAt(token) != S_CLOSE; n++) {
                int type = typeAt(token);
                if (type < 0) {
                    return wrong(token);
                }
                int name = behindType(token);
                int word = words.wordOf(name);
                if (types.typeNamed(word) >= 0 || scopeOf(word) >= 0) {
                    return wrong(name);
                }
                open(word, type, n + 1);
                token = words.kindAt(name + 1) == S_COMMA ? name + 2 : name + 1;
            }
            return true;
        }

        private void open(int word, int type, int slot) {
            if (scopeCount < SCOPES) {
                scopes[3 * scopeCount] = word;
                scopes[3 * scopeCount + 1] = type;
                scopes[3 * scopeCount + 2] = slot;
                scopeCount++;
            }
        }

        private int scopeOf(int word) {
            for (int i = scopeCount - 1; i >= 0; i--) {
                if (scopes[3 * i] == word) {
                    return 3 * i;
                }
            }
            return NONE;
        }

        /** Adds the fields of the parents, then those of the class itself. */
        private void addFields(int type) {
            if (types.sort[type] == IS_ENUM) {
                return;
            }
            int generations = 0;
            for (int other = types.parent[type]; other >= 0 && generations < CLASSES; other = types.parent[other]) {
                generations++;
            }
            for (int n = generations; n >= 0; n--) {
                int owner = type;
                for (int i = 0; i < n; i++) {
                    owner = types.parent[owner];
                }
                addOwnFields(type, owner - FIRST_CLASS);
            }
        }

        private void addOwnFields(int type, int d) {
            for (int m = parser.memberFirst[d]; m < parser.memberFirst[d + 1]; m++) {
                int token = parser.memberToken[m];
                if (!isMethod(m)) {
                    types.addField(type, words.wordOf(behindType(token)), typeAt(token));
                }
            }
        }

        /** Compares the methods with those above by means of a table from names to methods. */
        private boolean overrides(int d) {
            int type = FIRST_CLASS + d;
            boolean isSame = true;
            Arrays.fill(seen, 0);
            for (int other = FIRST_CLASS; other < FIRST_CLASS + types.classes; other++) {
                if (other != type && types.isBelow(type, other)) {
                    isSame = addSeen(other) && isSame;
                }
            }
            int m = types.methodFirst[type];
            for (int i = parser.memberFirst[d]; i < parser.memberFirst[d + 1]; i++) {
                if (types.sort[type] != IS_ENUM && isMethod(i)) {
                    if (isOverriddenOtherwise(type, m)) {
                        return wrong(behindType(typeToken(i)));
                    }
                    m++;
                }
            }
            return isSame || wrong(parser.nameToken[d]);
        }

        private boolean addSeen(int type) {
            boolean isSame = true;
            for (int m = types.methodFirst[type]; m < types.methodFirst[type + 1]; m++) {
                int word = types.methodName[m];
                if (seen[word] == 0) {
                    seen[word] = m + 1;
                } else if (!types.sameTypes(m, seen[word] - 1)) {
                    isSame = false;
                }
            }
            return isSame;
        }

        private boolean isOverriddenOtherwise(int type, int method) {
            int word = types.methodName[method];
            if (seen[word] == 0) {
                return false;
            }
            for (int other = FIRST_CLASS; other < FIRST_CLASS + types.classes; other++) {
                int m = other != type && types.isBelow(type, other) ? types.ownMethod(other, word) : NONE;
                if (m >= 0 && !types.sameTypes(m, method)) {
                    return true;
                }
            }
            return false;
        }

        private boolean hasBodies(int type) {
            if (types.sort[type] != IS_CLASS && types.sort[type] != IS_RECORD) {
                return true;
            }
            for (int other = FIRST_CLASS; other < FIRST_CLASS + types.classes; other++) {
                if (types.isBelow(type, other)) {
                    for (int m = types.methodFirst[other]; m < types.methodFirst[other + 1]; m++) {
                        if (types.bodyOf(type, types.methodName[m]) < 0) {
                            return false;
                        }
                    }
                }
            }
            return true;
        }

        private boolean bodies(int d) {
            int method = types.methodFirst[FIRST_CLASS + d];
            for (int m = parser.memberFirst[d]; m < parser.memberFirst[d + 1]; m++) {
                if (types.sort[FIRST_CLASS + d] != IS_ENUM && isMethod(m)) {
                    if (parser.memberFrom[m] >= 0) {
                        types.methodCode[method] = length;
                        parameters(behindType(typeToken(m)) + 2);
                        prepare(FIRST_CLASS + d, 1 + scopeCount);
                        kinds[0] = types.methodTypes[method * SIGNATURE];
                        if (!items(parser.memberFrom[m], parser.memberTo[m])) {
                            return false;
                        }
                    }
                    method++;
                }
            }
            return true;
        }

        private void prepare(int type, int slots) {
            self = type;
            depth = slots;
            top = 0;
            jumpCount = 0;
        }

        /** Checks the query that the parser has read and writes its code behind that of the classes. */
        boolean query() {
            length = base;
            scopeCount = 0;
            columns = 0;
            orderKind = NONE;
            isDown = false;
            prepare(NONE, 0);
            if (!items(0, parser.items)) {
                return false;
            }
            emit(ROW);
            for (int n = jumpCount - 1; n >= 0; n--) {
                emit2(JUMP, jumps[n]);
                code[jumps[n] + 1] = length;
                emit(LEAVE);
            }
            emit(STOP);
            return true;
        }

        /** Checks the items and writes their code; false at the first error. */
        private boolean items(int from, int to) {
            boolean isRight = true;
            for (int i = from; i < to && isRight; i++) {
                if (length > CODE_ROOM - FRAME) {
                    return false;
                }
                int token = parser.itemToken[i];
                int kind = words.kindAt(token);
                int word = words.wordOf(token);
                int count = parser.itemCount[i];
                place = words.positionOf(token);
                switch (parser.itemOp[i]) {
                    case I_START: isRight = count <= HEIGHT; break;
                    case I_NAME: isRight = variable(word); break;
                    case I_OWNER: isRight = variable(word) || nameOf(word, true); break;
                    case I_SOURCE: isRight = variable(word) || nameOf(word, false); break;
                    case I_LITERAL: isRight = literal(token); break;
                    case I_THIS: isRight = self >= 0 && thisObject(); break;
                    // In a query this is no object: an error of the call, which comes after those of its arguments.
                    case I_SELF: isRight = thisObject(); break;
                    case I_FIELD: isRight = selection(word); break;
                    case I_CALL: isRight = callOf(word, count); break;
                    case I_INDEX: isRight = index(); break;
                    case I_UNARY: isRight = unary(kind); break;
                    case I_BINARY: isRight = binary(kind); break;
                    case I_BRANCH: branch(kind == S_BOTH ? BOTH : EITHER); break;
                    case I_THEN: branch(CHOOSE); break;
                    case I_ELSE: otherBranch(); break;
                    case I_CHOICE: isRight = choice(); break;
                    case I_CAST: isRight = cast(token); break;
                    case I_INSTANCE: isRight = instance(token); break;
                    case I_BIND: isRight = bind(word, 1, words.kindAt(token - 1) == K_ALL ? 1 : 0); break;
                    case I_QUANTIFIER: isRight = quantifier(words.kindAt(token - 1)); break;
                    case I_RETURN: isRight = result(); break;
                    case I_FROM: isRight = scopeOf(word) < 0 && bind(word, 0, 0); break;
                    case I_WHERE: isRight = condition(); break;
                    case I_ORDER: isRight = order(count == 1); break;
                    default: column(); break;
                }
            }
            return isRight;
        }

        private void emit(int value) {
            if (length < CODE_ROOM) {
                code[length] = value;
                length++;
            }
        }

        private void emit2(int op, int a) {
            emit(op);
            emit(a);
        }

        private void emit3(int op, int a, int b) {
            emit(op);
            emit(a);
            emit(b);
        }

        private void push(int type) {
            stack[top] = type;
            top++;
            depth++;
        }

        private int typeBelow(int n) {
            return top > n ? stack[top - 1 - n] : NONE;
        }

        /** Replaces the types of the parts by that of the whole. */
        private boolean replace(int parts, int type) {
            top -= parts;
            depth -= parts;
            push(type);
            return true;
        }

        private boolean thisObject() {
            emit2(LOCAL, 0);
            push(self);
            return true;
        }

        private boolean variable(int word) {
            int scope = scopeOf(word);
            if (scope >= 0) {
                emit2(LOCAL, scopes[scope + 2]);
                push(scopes[scope + 1]);
                return true;
            }
            int i = self < 0 ? NONE : types.fieldNamed(self, word);
            if (i < 0) {
                return false;
            }
            emit2(LOCAL, 0);
            emit2(FIELD, i);
            push(types.fieldType[self * FIELDS + i]);
            return true;
        }

        /** The name of an enumeration whose constant follows, or of a class whose objects are the source. */
        private boolean nameOf(int word, boolean isOwner) {
            int type = types.typeNamed(word);
            if (type < FIRST_CLASS || isOwner && types.sort[type] != IS_ENUM) {
                return false;
            }
            emit3(CONSTANT, -1, -type);
            push(type + (isOwner ? ENUM_NAME : CLASS_NAME));
            return true;
        }

        private boolean literal(int token) {
            int word = words.kindAt(token);
            long value = words.valueOf(token);
            if (word == T_TEXT) {
                emit2(WORD, (int) value);
                push(TEXT);
                return true;
            }
            if (word < KEYWORDS) {
                value = word == K_TRUE ? 1L : 0L;
            }
            emit3(CONSTANT, (int) (value >>> 32), (int) value);
            switch (word) {
                case T_INT: push(INT); break;
                case T_LONG: push(LONG); break;
                case T_DOUBLE: push(DOUBLE); break;
                case T_CHAR: push(CHAR); break;
                case K_NULL: push(NULL_TYPE); break;
                default: push(BOOLEAN); break;
            }
            return true;
        }

        private static boolean isNumber(int type) {
            return type >= BYTE && type <= DOUBLE;
        }

        private static boolean isInteger(int type) {
            return type >= BYTE && type <= LONG;
        }

        private static boolean isReference(int type) {
            return type == NULL_TYPE || type >= OBJECT && type < TYPES;
        }

        private boolean suits(int type, int other) {
            if (type == NULL_TYPE) {
                return other >= OBJECT;
            }
            if (type <= DOUBLE || other <= DOUBLE) {
                return type == other || Types.widens(type, other);
            }
            return types.isBelow(type, other);
        }

        private boolean selection(int word) {
            int type = typeBelow(0);
            if (type >= ENUM_NAME) {
                int i = types.constantNamed(type - ENUM_NAME, word);
                code[length - 2] = 0;
                code[length - 1] = i + 1;
                return i >= 0 && replace(1, type - ENUM_NAME);
            }
            if (type < FIRST_CLASS) {
                return false;
            }
            if (types.sort[type] == IS_ARRAY && word == W_LENGTH) {
                emit(LENGTH);
                return replace(1, INT);
            }
            if (types.sort[type] == IS_ENUM && word == W_NUMBER) {
                emit(NUMBER);
                return replace(1, INT);
            }
            int i = types.fieldNamed(type, word);
            if (i < 0) {
                return false;
            }
            emit2(FIELD, i);
            return replace(1, types.fieldType[type * FIELDS + i]);
        }

        private boolean callOf(int word, int count) {
            int type = typeBelow(count);
            if (type == TEXT) {
                return textCall(word, count);
            }
            int method = types.isClass(type) ? types.methodOf(type, word) : NONE;
            if (method < 0 || types.parametersOf(method) != count) {
                return false;
            }
            for (int i = 0; i < count; i++) {
                int from = typeBelow(count - 1 - i);
                int to = types.methodTypes[method * SIGNATURE + 1 + i];
                if (!suits(from, to)) {
                    return false;
                }
                convert(count - 1 - i, from, to);
            }
            emit3(CALL, word, count);
            return replace(count + 1, types.methodTypes[method * SIGNATURE]);
        }

        private boolean textCall(int word, int count) {
            if (word == W_LENGTH && count == 0) {
                emit(TEXT_LENGTH);
                return replace(1, INT);
            }
            if (word != W_AT || count != 1 || !isIndex(typeBelow(0))) {
                return false;
            }
            emit(TEXT_AT);
            return replace(2, CHAR);
        }

        // Integers are held as longs, so that widening changes nothing but to float and double.
        private void convert(int below, int from, int to) {
            if (from != to && (to == FLOAT || to == DOUBLE)) {
                emit2(CONVERT, below);
                emit2(from, to);
            }
        }

        private static boolean isIndex(int type) {
            return type >= BYTE && type <= INT;
        }

        private boolean index() {
            int type = typeBelow(1);
            if (type < FIRST_CLASS || types.sort[type] != IS_ARRAY || !isIndex(typeBelow(0))) {
                return false;
            }
            emit(INDEX);
            return replace(2, types.element[type]);
        }

        private boolean unary(int symbol) {
            int type = typeBelow(0);
            emit3(UNARY, symbol, type);
            if (symbol == S_NOT) {
                return type == BOOLEAN && replace(1, BOOLEAN);
            }
            boolean isRight = symbol == S_TILDE ? isInteger(type) : isNumber(type);
            return isRight && replace(1, Math.max(type, INT));
        }

        private boolean binary(int symbol) {
            int left = typeBelow(1);
            int right = typeBelow(0);
            if (symbol == S_BOTH || symbol == S_EITHER) {
                jumpCount--;
                code[jumps[jumpCount] + 1] = length;
                depth++;
                return left == BOOLEAN && right == BOOLEAN && replace(2, BOOLEAN);
            }
            emit2(BINARY, symbol);
            emit2(left, right);
            return areOperands(symbol, left, right) && replace(2, typeOf(symbol, left, right));
        }

        private boolean areOperands(int symbol, int left, int right) {
            switch (symbol) {
                case S_LEFT: case S_RIGHT: case S_RIGHT_ZERO:
                    return isInteger(left) && isInteger(right);
                case S_AND: case S_OR: case S_XOR:
                    return left == BOOLEAN && right == BOOLEAN || isInteger(left) && isInteger(right);
                case S_EQUAL: case S_UNEQUAL:
                    if (isReference(left) && isReference(right)) {
                        return left == NULL_TYPE || right == NULL_TYPE || types.castable(left, right);
                    }
                    return left == BOOLEAN && right == BOOLEAN || isNumber(left) && isNumber(right);
                default:
                    return isNumber(left) && isNumber(right);
            }
        }

        private static int typeOf(int symbol, int left, int right) {
            switch (symbol) {
                case S_LEFT: case S_RIGHT: case S_RIGHT_ZERO:
                    return Math.max(left, INT);
                case S_EQUAL: case S_UNEQUAL: case S_LESS: case S_GREATER: case S_AT_MOST: case S_AT_LEAST:
                    return BOOLEAN;
                default:
                    return left == BOOLEAN ? BOOLEAN : Math.max(INT, Math.max(left, right));
            }
        }

        private boolean cast(int token) {
            int type = typeAt(token + 1);
            int from = typeBelow(0);
            if (type < 0) {
                return wrong(token + 1);
            }
            if (type <= DOUBLE) {
                emit3(CAST, from, type);
                boolean isRight = isNumber(from) && isNumber(type) || from == type;
                return isRight && replace(1, type);
            }
            if (!isReference(from) || from != NULL_TYPE && !types.castable(from, type)) {
                return false;
            }
            emit2(CAST_TO, type);
            return replace(1, type);
        }

        private boolean instance(int token) {
            int type = typeAt(token + 1);
            int from = typeBelow(0);
            if (type < 0) {
                return wrong(token + 1);
            }
            if (type < OBJECT || !isReference(from) || from != NULL_TYPE && !types.castable(from, type)) {
                return false;
            }
            emit2(INSTANCE, type);
            return replace(1, BOOLEAN);
        }

        private void remember(int address) {
            if (jumpCount < JUMPS) {
                jumps[jumpCount] = address;
                jumpCount++;
            }
        }

        // The type stack keeps the types of the parts to the left for the check of the whole, but the machine has taken
        // their values from its stack when the parts to the right are evaluated: so depth and top part here.
        private void branch(int op) {
            depth--;
            remember(length);
            emit2(op, 0);
        }

        private void otherBranch() {
            depth--;
            int condition = jumps[jumpCount - 1];
            jumps[jumpCount - 1] = length;
            emit2(CONVERT, 0);
            emit2(BOOLEAN, BOOLEAN);
            emit2(JUMP, 0);
            code[condition + 1] = length;
        }

        private boolean choice() {
            int first = typeBelow(1);
            int second = typeBelow(0);
            int type = choiceType(first, second);
            jumpCount--;
            int address = jumps[jumpCount];
            if (type == NONE || typeBelow(2) != BOOLEAN) {
                return false;
            }
            if (isNumber(type)) {
                code[address + 2] = first;
                code[address + 3] = type;
                convert(0, second, type);
            }
            code[address + 5] = length;
            depth += 2;
            return replace(3, type);
        }

        private int choiceType(int first, int second) {
            if (first == second && (first == NULL_TYPE || first >= 0)) {
                return first;
            }
            if (isNumber(first) && isNumber(second)) {
                return Math.max(INT, Math.max(first, second));
            }
            if (!isReference(first) || !isReference(second)) {
                return NONE;
            }
            return suits(first, second) ? second : suits(second, first) ? first : NONE;
        }

        private boolean result() {
            emit3(RETURN, typeBelow(0), kinds[0]);
            return suits(typeBelow(0), kinds[0]);
        }

        /** Begins to go through a source: four slots hold the source, the position, the result and the element. */
        private boolean bind(int word, int steps, int start) {
            int type = typeBelow(0);
            int inner = type >= CLASS_NAME ? type - CLASS_NAME
                : type >= FIRST_CLASS && types.sort[type] == IS_ARRAY ? types.element[type] : NONE;
            if (inner < 0 || types.typeNamed(word) >= 0) {
                return false;
            }
            emit3(LOOP, steps, start);
            open(word, inner, depth + 2);
            depth += 3;
            remember(length);
            emit2(NEXT, 0);
            return true;
        }

        private boolean quantifier(int word) {
            int type = typeBelow(0);
            boolean isSum = word == K_SUM;
            jumpCount--;
            int next = jumps[jumpCount];
            emit2(TEST, word);
            emit2(type, next);
            code[next + 1] = length;
            emit(DONE);
            scopeCount--;
            depth -= 3;
            if (!isSum) {
                return type == BOOLEAN && replace(2, word < K_SUM - 1 ? BOOLEAN : INT);
            }
            return isNumber(type) && replace(2, type == FLOAT ? DOUBLE : Math.max(type, INT));
        }

        private boolean condition() {
            boolean isRight = typeBelow(0) == BOOLEAN;
            emit2(UNLESS, jumps[jumpCount - 1]);
            top--;
            depth--;
            return isRight;
        }

        private boolean order(boolean down) {
            orderKind = typeBelow(0);
            isDown = down;
            return orderKind >= BOOLEAN && orderKind <= DOUBLE || orderKind == TEXT;
        }

        private void column() {
            if (columns < COLUMNS) {
                kinds[columns] = typeBelow(0) == NULL_TYPE ? OBJECT : typeBelow(0);
                columns++;
            }
        }
    }

    /** Runs the code of methods and queries, with a limit on the steps. */
    private static final class Machine {
        private final Store store;
        private final Types types;
        private final Coder coder;
        private final Answers answers;
        private final int[] code;
        private final long[] stack = new long[(CALLS + 2) * FRAME];
        private int top;
        private int base;
        private int at;
        private final int[] returns = new int[2 * (CALLS + 1)];
        private int calls;
        private int limit;
        private int failure;
        private int steps;
        private long answered;
        private final int[] list = new int[CLASSES * OBJECTS];
        private int listed;
        private final int[] listFirst = new int[KINDS];
        private final int[] listCount = new int[KINDS];

        Machine(Store store, Coder coder, Answers answers) {
            this.store = store;
            this.types = store.types;
            this.coder = coder;
            this.answers = answers;
            this.code = coder.code;
        }

        void forget() {
            steps = 0;
            answered = 0L;
        }

        /** Sets the object or an argument of the method that is called next. */
        void preset(int slot, long bits) {
            stack[slot] = bits;
        }

        int runCall(int start, int count, int most) {
            top = count + 1;
            calls = 1;
            returns[0] = 0;
            returns[1] = 0;
            run(start, most);
            answered = failure == 0 ? stack[0] : 0L;
            return -failure;
        }

        int runQuery(int most) {
            top = 0;
            calls = 0;
            answers.start(coder.columns, coder.orderKind);
            run(coder.base, most);
            return failure == 0 ? answers.finish(coder.kinds, coder.isDown) : -failure;
        }

        private void run(int start, int most) {
            at = start;
            base = 0;
            limit = most;
            steps = 0;
            failure = 0;
            listed = 0;
            Arrays.fill(listFirst, NONE);
            for (int tick = 0; tick < TICKS && failure == 0; tick++) {
                int op = code[at];
                if (op == STOP) {
                    return;
                }
                if (op <= LOCAL) {
                    load(op);
                } else if (op <= TEXT_AT) {
                    part(op);
                } else if (op <= RETURN) {
                    transfer(op);
                } else if (op <= CONVERT) {
                    operator(op);
                } else if (op <= UNLESS) {
                    jump(op);
                } else {
                    loop(op);
                }
            }
            failure = failure == 0 ? 10 : failure;
        }

        private boolean step() {
            if (steps >= limit) {
                failure = 10;
                return false;
            }
            steps++;
            return true;
        }

        private void load(int op) {
            if (op == CONSTANT) {
                stack[top] = (long) code[at + 1] << 32 | code[at + 2] & 0xFFFFFFFFL;
                at += 3;
            } else {
                stack[top] = op == WORD ? store.textOf[code[at + 1]] : stack[base + code[at + 1]];
                at += 2;
            }
            top++;
        }

        /** Replaces an object by its field, element, length or number. */
        private void part(int op) {
            boolean hasIndex = op == INDEX || op == TEXT_AT;
            if (hasIndex) {
                top--;
            }
            if (!step()) {
                return;
            }
            int t = (int) stack[top - 1];
            int i = op == FIELD ? code[at + 1] : hasIndex ? (int) stack[top] : 0;
            if (t == 0) {
                failure = 3;
                return;
            }
            if (hasIndex && (i < 0 || i >= store.size[t])) {
                failure = 2;
                return;
            }
            at += op == FIELD ? 2 : 1;
            switch (op) {
                case FIELD: case INDEX: stack[top - 1] = store.readCell(t, i); break;
                case NUMBER: stack[top - 1] = store.place[t]; break;
                case TEXT_AT: stack[top - 1] = store.words.letterOf(store.place[t], i); break;
                default: stack[top - 1] = store.size[t]; break;
            }
        }

        private void transfer(int op) {
            if (op == RETURN) {
                long result = Types.cast(stack[top - 1], code[at + 1], code[at + 2]);
                calls--;
                top = base;
                at = returns[2 * calls];
                base = returns[2 * calls + 1];
                stack[top] = result;
                top++;
                return;
            }
            int count = code[at + 2];
            int start = top - count - 1;
            if (!step()) {
                return;
            }
            if (stack[start] == 0L) {
                failure = 3;
                return;
            }
            int method = types.bodyOf(store.kind[(int) stack[start]], code[at + 1]);
            if (calls >= CALLS || method < 0 || top + FRAME > stack.length) {
                failure = 9;
                return;
            }
            returns[2 * calls] = at + 3;
            returns[2 * calls + 1] = base;
            calls++;
            base = start;
            at = types.methodCode[method];
        }

        private void operator(int op) {
            if (op == CONVERT) {
                int i = top - 1 - code[at + 1];
                stack[i] = Types.cast(stack[i], code[at + 2], code[at + 3]);
                at += 4;
                return;
            }
            if (!step()) {
                return;
            }
            long value = stack[top - 1];
            switch (op) {
                case BINARY:
                    top--;
                    stack[top - 1] = binary(code[at + 1], code[at + 2], code[at + 3]);
                    at += 4;
                    break;
                case UNARY:
                    stack[top - 1] = unary(value, code[at + 1], code[at + 2]);
                    at += 3;
                    break;
                case CAST:
                    stack[top - 1] = Types.cast(value, code[at + 1], code[at + 2]);
                    at += 3;
                    break;
                case CAST_TO:
                    failure = value != 0L && !types.isBelow(store.kind[(int) value], code[at + 1]) ? 7 : 0;
                    at += 2;
                    break;
                default:
                    stack[top - 1] = value != 0L && types.isBelow(store.kind[(int) value], code[at + 1]) ? 1L : 0L;
                    at += 2;
                    break;
            }
        }

        private static long unary(long value, int symbol, int type) {
            if (symbol == S_NOT) {
                return 1L - value;
            }
            if (symbol == S_TILDE) {
                return ~value;
            }
            if (type == FLOAT) {
                return value ^ 0x80000000L;
            }
            if (type == DOUBLE) {
                return value ^ LEAST_LONG;
            }
            return type == LONG ? -value : (int) -value;
        }

        private long binary(int symbol, int left, int right) {
            long a = stack[top - 1];
            long b = stack[top];
            if (symbol == S_LEFT || symbol == S_RIGHT || symbol == S_RIGHT_ZERO) {
                return shift(symbol, a, b, left == LONG);
            }
            boolean areNumbers = left >= BYTE && left <= DOUBLE;
            int type = areNumbers ? Math.max(INT, Math.max(left, right)) : LONG;
            if (areNumbers) {
                a = Types.cast(a, left, type);
                b = Types.cast(b, right, type);
            }
            switch (symbol) {
                case S_AND: return a & b;
                case S_OR: return a | b;
                case S_XOR: return a ^ b;
                case S_ADD: case S_SUBTRACT: case S_MULTIPLY: case S_DIVIDE: case S_REMAINDER:
                    return type <= LONG ? whole(symbol, a, b, type) : real(symbol, a, b, type);
                default:
                    return compares(symbol, Long.compare(Types.key(a, type), Types.key(b, type))) ? 1L : 0L;
            }
        }

        private static boolean compares(int symbol, int order) {
            switch (symbol) {
                case S_EQUAL: return order == 0;
                case S_UNEQUAL: return order != 0;
                case S_LESS: return order < 0;
                case S_GREATER: return order > 0;
                case S_AT_MOST: return order <= 0;
                default: return order >= 0;
            }
        }

        private static long shift(int symbol, long a, long b, boolean isLong) {
            int n = (int) b;
            if (isLong) {
                return symbol == S_LEFT ? a << n : symbol == S_RIGHT ? a >> n : a >>> n;
            }
            int value = (int) a;
            return symbol == S_LEFT ? value << n : symbol == S_RIGHT ? value >> n : value >>> n;
        }

        private long whole(int symbol, long a, long b, int type) {
            if (b == 0L && (symbol == S_DIVIDE || symbol == S_REMAINDER)) {
                failure = 8;
                return 0L;
            }
            long result;
            switch (symbol) {
                case S_ADD: result = a + b; break;
                case S_SUBTRACT: result = a - b; break;
                case S_MULTIPLY: result = a * b; break;
                case S_DIVIDE: result = b == -1L ? -a : a / b; break;
                default: result = b == -1L ? 0L : a % b; break;
            }
            return Types.narrow(result, type);
        }

        private long real(int symbol, long a, long b, int type) {
            int width = type == FLOAT ? 23 : 52;
            int bias = type == FLOAT ? 127 : 1023;
            if (isNoNumber(symbol, a, b, type)) {
                failure = 8;
                return 0L;
            }
            if (symbol == S_REMAINDER) {
                return remainder(a, b, width, type == FLOAT ? 0x80000000L : LEAST_LONG);
            }
            double x = Types.decode(a, width, bias);
            double y = Types.decode(b, width, bias);
            if (type == FLOAT) {
                return Types.encode((double) single(symbol, (float) x, (float) y), width, bias);
            }
            double result;
            switch (symbol) {
                case S_ADD: result = x + y; break;
                case S_SUBTRACT: result = x - y; break;
                case S_MULTIPLY: result = x * y; break;
                default: result = x / y; break;
            }
            return Types.encode(result, width, bias);
        }

        private static float single(int symbol, float x, float y) {
            switch (symbol) {
                case S_ADD: return x + y;
                case S_SUBTRACT: return x - y;
                case S_MULTIPLY: return x * y;
                default: return x / y;
            }
        }

        private static boolean isNoNumber(int symbol, long a, long b, int type) {
            long sizes = type == FLOAT ? 0x7FFFFFFFL : MOST_LONG;
            long infinity = type == FLOAT ? 0x7F800000L : 0x7FF0000000000000L;
            boolean isInfiniteA = (a & sizes) == infinity;
            boolean isInfiniteB = (b & sizes) == infinity;
            boolean isZeroA = (a & sizes) == 0L;
            boolean isZeroB = (b & sizes) == 0L;
            switch (symbol) {
                case S_ADD: return isInfiniteA && isInfiniteB && a != b;
                case S_SUBTRACT: return isInfiniteA && a == b;
                case S_MULTIPLY: return isInfiniteA && isZeroB || isZeroA && isInfiniteB;
                case S_DIVIDE: return isInfiniteA && isInfiniteB || isZeroA && isZeroB;
                default: return isInfiniteA || isZeroB;
            }
        }

        // The remainder is exact, so it is found by integers: there is no % for doubles in the language of this file.
        private static long remainder(long a, long b, int width, long signBit) {
            long hidden = 1L << width;
            long sizeA = a & signBit - 1L;
            long sizeB = b & signBit - 1L;
            if (sizeA < sizeB) {
                return a;
            }
            int shift = (int) (Math.max(1L, sizeA >>> width) - Math.max(1L, sizeB >>> width));
            long divisor = sizeB < hidden ? sizeB : sizeB & hidden - 1L | hidden;
            long rest = sizeA < hidden ? sizeA : sizeA & hidden - 1L | hidden;
            if (divisor == 0L) {
                return a;
            }
            rest = rest % divisor;
            while (shift > 0) {
                int n = Math.min(shift, 10);
                rest = (rest << n) % divisor;
                shift -= n;
            }
            long exponent = Math.max(1L, sizeB >>> width);
            while (rest != 0L && rest < hidden && exponent > 1L) {
                rest = rest << 1;
                exponent--;
            }
            long sign = a & signBit;
            return rest < hidden ? sign | rest : sign | exponent << width | rest & hidden - 1L;
        }

        private void jump(int op) {
            boolean isTrue = stack[top - 1] != 0L;
            switch (op) {
                case BOTH: case EITHER:
                    if (!step()) {
                        return;
                    }
                    if (isTrue == (op == EITHER)) {
                        at = code[at + 1];
                        return;
                    }
                    top--;
                    break;
                case CHOOSE: case UNLESS:
                    if (op == CHOOSE && !step()) {
                        return;
                    }
                    top--;
                    if (!isTrue) {
                        at = code[at + 1];
                        return;
                    }
                    break;
                default:
                    at = code[at + 1];
                    return;
            }
            at += 2;
        }

        private void loop(int op) {
            switch (op) {
                case LOOP:
                    startLoop(code[at + 1] == 1, code[at + 2]);
                    break;
                case NEXT:
                    nextTurn();
                    break;
                case TEST:
                    endTurn(code[at + 1], code[at + 2], code[at + 3]);
                    break;
                case DONE:
                    stack[top - 4] = stack[top - 2];
                    top -= 3;
                    at++;
                    break;
                case LEAVE:
                    top -= 4;
                    at++;
                    break;
                default:
                    addRow();
                    break;
            }
        }

        private void startLoop(boolean isStep, long start) {
            long source = stack[top - 1];
            if (isStep && !step()) {
                return;
            }
            if (source == 0L) {
                failure = 3;
                return;
            }
            if (source < 0L) {
                gather((int) -source);
            }
            stack[top] = 0L;
            stack[top + 1] = start;
            stack[top + 2] = 0L;
            top += 3;
            at += 3;
        }

        /** Lists the living objects of a class once for an evaluation: they do not change meanwhile. */
        private void gather(int type) {
            store.readClass(type);
            if (listFirst[type] >= 0) {
                return;
            }
            listFirst[type] = listed;
            for (int t = 1; t < store.next && listed < list.length; t++) {
                if (store.isAlive(t) && types.isBelow(store.kind[t], type)) {
                    list[listed] = t;
                    listed++;
                }
            }
            listCount[type] = listed - listFirst[type];
        }

        private void nextTurn() {
            int source = (int) stack[top - 4];
            int i = (int) stack[top - 3];
            if (i >= (source < 0 ? listCount[-source] : store.size[source])) {
                at = code[at + 1];
                return;
            }
            if (!step()) {
                return;
            }
            stack[top - 1] = source < 0 ? list[listFirst[-source] + i] : store.readCell(source, i);
            stack[top - 3] = i + 1;
            at += 2;
        }

        private void endTurn(int word, int type, int next) {
            top--;
            long value = stack[top];
            boolean isOver = false;
            if (word == K_SUM) {
                int wide = type == FLOAT ? DOUBLE : Math.max(type, INT);
                long more = Types.cast(value, type, wide);
                long sum = stack[top - 2];
                stack[top - 2] = wide <= LONG ? whole(S_ADD, sum, more, wide) : real(S_ADD, sum, more, wide);
            } else if (word == K_EXISTS || word == K_ALL) {
                isOver = value == (word == K_EXISTS ? 1L : 0L);
                stack[top - 2] = isOver ? value : stack[top - 2];
            } else {
                stack[top - 2] += value;
            }
            at = isOver ? at + 4 : next;
        }

        private void addRow() {
            int size = coder.columns + (coder.orderKind < 0 ? 0 : 1);
            top -= size;
            failure = answers.addRow(stack, top) ? 0 : 12;
            at++;
        }
    }

    /** The rows of queries and the objects of ranges, and how they are put in order. */
    private static final class Answers {
        private final Store store;
        private final Types types;
        private final long[] built = new long[ROWS * (COLUMNS + 1)];
        private int builtRows;
        private int width;
        private int orderKind = NONE;
        private final long[] values = new long[ROWS * COLUMNS];
        private final int[] kinds = new int[COLUMNS];
        private int rows;
        private int columns;
        private final long[] keys = new long[OBJECTS];
        private int[] order = new int[OBJECTS];
        private int[] spare = new int[OBJECTS];
        private final int[] picked = new int[OBJECTS];
        private final int[] objects = new int[OBJECTS];
        private int objectCount;

        Answers(Store store) {
            this.store = store;
            this.types = store.types;
        }

        void forget() {
            rows = 0;
            columns = 0;
            objectCount = 0;
        }

        long value(int r, int c) {
            return r < 0 || r >= rows || c < 0 || c >= columns ? 0L : values[r * COLUMNS + c];
        }

        int kindOfColumn(int c) {
            return c < 0 || c >= columns ? NONE : kinds[c];
        }

        int objectFound(int n) {
            return n < 0 || n >= objectCount ? 0 : objects[n];
        }

        /** Begins the rows of a query; the earlier ones stay until it has succeeded. */
        void start(int newColumns, int newOrderKind) {
            builtRows = 0;
            width = newColumns + (newOrderKind < 0 ? 0 : 1);
            orderKind = newOrderKind;
        }

        boolean addRow(long[] stack, int from) {
            if (builtRows >= ROWS) {
                return false;
            }
            System.arraycopy(stack, from, built, builtRows * (COLUMNS + 1), width);
            builtRows++;
            return true;
        }

        int finish(int[] newKinds, boolean isDown) {
            int first = orderKind < 0 ? 0 : 1;
            columns = width - first;
            rows = builtRows;
            System.arraycopy(newKinds, 0, kinds, 0, columns);
            for (int r = 0; r < rows; r++) {
                long bits = built[r * (COLUMNS + 1)];
                keys[r] = first == 0 || orderKind == TEXT ? bits : Types.orderKey(bits, orderKind);
            }
            sort(first == 0 ? 0 : rows, isDown);
            for (int r = 0; r < rows; r++) {
                int from = first == 0 ? r : order[r];
                System.arraycopy(built, from * (COLUMNS + 1) + first, values, r * COLUMNS, columns);
            }
            return rows;
        }

        int findRange(int k, int i, long low, long high) {
            int count = 0;
            int type = types.fieldType[k * FIELDS + i];
            store.readClass(k);
            for (int t = 1; t < store.next; t++) {
                if (store.isAlive(t) && types.isBelow(store.kind[t], k)) {
                    long key = Types.key(store.readCell(t, i), type);
                    if (key >= low && key <= high && count < OBJECTS) {
                        keys[count] = key;
                        picked[count] = t;
                        count++;
                    }
                }
            }
            orderKind = type;
            sort(count, false);
            for (int n = 0; n < count; n++) {
                objects[n] = picked[order[n]];
            }
            objectCount = count;
            return count;
        }

        /** Puts the numbers from 0 in the order of their keys; equal ones stay in their order. */
        private void sort(int count, boolean isDown) {
            for (int i = 0; i < count; i++) {
                order[i] = i;
            }
            for (int size = 1; size < count; size *= 2) {
                for (int from = 0; from < count; from += 2 * size) {
                    merge(from, Math.min(from + size, count), Math.min(from + 2 * size, count), isDown);
                }
                int[] sorted = spare;
                spare = order;
                order = sorted;
            }
        }

        private void merge(int from, int middle, int to, boolean isDown) {
            int left = from;
            int right = middle;
            for (int i = from; i < to; i++) {
                boolean takeLeft = left < middle;
                if (takeLeft && right < to) {
                    int compared = compare(keys[order[left]], keys[order[right]]);
                    takeLeft = isDown ? compared >= 0 : compared <= 0;
                }
                if (takeLeft) {
                    spare[i] = order[left];
                    left++;
                } else {
                    spare[i] = order[right];
                    right++;
                }
            }
        }

        private int compare(long a, long b) {
            if (orderKind != TEXT || a == 0L || b == 0L) {
                return Long.compare(a, b);
            }
            return store.words.compare(store.place[(int) a], store.place[(int) b]);
        }
    }

    /** An open transaction: the version with which it began, and what it has read, changed and created since. */
    private static final class Act {
        private int number;
        private int begun;
        private final int[] own = new int[OBJECTS + 1];
        private final byte[] marks = new byte[OBJECTS + 1];
        private final int[] roots = new int[ROOTS];
        private int rootsRead;
        private int rootsChanged;
        private long classesRead;

        void start(int newNumber, int version) {
            number = newNumber;
            begun = version;
            Arrays.fill(own, 0);
            Arrays.fill(marks, (byte) 0);
            rootsRead = 0;
            rootsChanged = 0;
            classesRead = 0L;
        }
    }

    /** The objects in all versions, and the open transactions. */
    private static final class Store {
        private final Words words;
        private final Types types;
        private int next = 1;
        private int fixed;
        private final int[] kind = new int[OBJECTS + 1];
        private final int[] size = new int[OBJECTS + 1];
        // The version of the commit, 0 for texts and constants; OPEN, LOST, or with COLLECTED added.
        private final int[] born = new int[OBJECTS + 1];
        // The newest block of cells; for a text its word, for a constant its position.
        private final int[] place = new int[OBJECTS + 1];
        private final int[] changed = new int[OBJECTS + 1];
        private final int[] textOf = new int[WORDS];
        // Blocks: the place of the block of the version before, the version, and the fields or elements.
        private final long[] cells = new long[BLOCKS];
        private int used = BLOCK;
        private int elements;
        private int total;
        // A transaction for each slot, and one more that stands for a version as the view.
        private final Act[] acts = new Act[ACTS + 1];
        private int lastAct;
        private Act view;
        private int oldest;
        private int newest;
        // The roots of each version, and behind them the version that changed each root last.
        private final int[] roots = new int[ROOT_CHANGES + ROOTS];

        Store(Words words, Types types) {
            this.words = words;
            this.types = types;
            for (int i = 0; i <= ACTS; i++) {
                acts[i] = new Act();
            }
        }

        /** Creates the constants and the texts of the class text; false if there is no room. */
        boolean settle() {
            int constants = types.constants();
            if (constants > OBJECTS) {
                return false;
            }
            for (int type = FIRST_CLASS; type < FIRST_CLASS + types.classes; type++) {
                for (int i = 0; i < types.constantsOf(type); i++) {
                    addFixed(type, 0, i);
                }
            }
            if (!addTexts()) {
                next = 1;
                return false;
            }
            fixed = next - 1;
            return true;
        }

        private int addFixed(int type, int length, int where) {
            int t = next;
            next++;
            kind[t] = type;
            size[t] = length;
            born[t] = 0;
            place[t] = where;
            changed[t] = 0;
            return t;
        }

        int addText(int word) {
            textOf[word] = addFixed(TEXT, words.lengthOf(word), word);
            return textOf[word];
        }

        /** Creates the texts among the tokens, all or, if there is no room, none. */
        boolean addTexts() {
            int fresh = 0;
            for (int i = 0; i < words.tokens; i++) {
                if (words.kindAt(i) == T_TEXT && textOf[words.wordOf(i)] == 0) {
                    textOf[words.wordOf(i)] = NONE;
                    fresh++;
                }
            }
            boolean hasRoom = room(fresh, 0);
            for (int i = 0; i < words.tokens; i++) {
                if (words.kindAt(i) == T_TEXT && textOf[words.wordOf(i)] < 0) {
                    textOf[words.wordOf(i)] = 0;
                    if (hasRoom) {
                        addText(words.wordOf(i));
                    }
                }
            }
            return hasRoom;
        }

        /** Forgets everything but the constants and the texts of the class text. */
        void restart() {
            for (int t = fixed + 1; t < next; t++) {
                if (kind[t] == TEXT && textOf[place[t]] == t) {
                    textOf[place[t]] = 0;
                }
            }
            Arrays.fill(born, fixed + 1, OBJECTS + 1, LOST);
            Arrays.fill(changed, 0);
            Arrays.fill(roots, 0);
            next = fixed + 1;
            used = BLOCK;
            elements = 0;
            for (int i = 0; i <= ACTS; i++) {
                acts[i].number = 0;
            }
            lastAct = 0;
            view = null;
            oldest = 0;
            newest = 0;
        }

        boolean start() {
            for (int i = 0; i < ACTS; i++) {
                if (acts[i].number == 0) {
                    lastAct++;
                    acts[i].start(lastAct, newest);
                    System.arraycopy(roots, newest * ROOTS, acts[i].roots, 0, ROOTS);
                    view = acts[i];
                    return true;
                }
            }
            return false;
        }

        Act actOf(int number) {
            for (int i = 0; i < ACTS; i++) {
                if (number > 0 && acts[i].number == number) {
                    return acts[i];
                }
            }
            return null;
        }

        void showVersion(int version) {
            view = acts[ACTS];
            view.start(0, version);
            System.arraycopy(roots, version * ROOTS, view.roots, 0, ROOTS);
        }

        boolean isAliveIn(Act act, int t) {
            return born[t] == OPEN ? (act.marks[t] & CREATED) != 0 : born[t] >= 0 && born[t] <= act.begun;
        }

        boolean isAlive(int t) {
            return view != null && t > 0 && t < next && isAliveIn(view, t);
        }

        boolean isArray(int t) {
            return types.sort[kind[t]] == IS_ARRAY;
        }

        boolean hasFields(int t) {
            return types.sort[kind[t]] == IS_CLASS || types.sort[kind[t]] == IS_RECORD;
        }

        boolean hasCells(int t) {
            return types.hasCells(kind[t]);
        }

        int cellsOf(int t) {
            return types.hasCells(kind[t]) ? size[t] : 0;
        }

        boolean room(int objects, int more) {
            return next - 1 + objects <= OBJECTS && elements + more <= CELLS;
        }

        private int newBlock(int length) {
            int block = used;
            if (used + BLOCK + length > BLOCKS) {
                return 0;
            }
            used += BLOCK + length;
            Arrays.fill(cells, block, used, 0L);
            return block;
        }

        int create(int type, int length) {
            int t = addFixed(type, length, 0);
            born[t] = OPEN;
            elements += length;
            view.own[t] = newBlock(length);
            view.marks[t] |= CREATED;
            return t;
        }

        /** The cells of an object as an act sees them. */
        int blockIn(Act act, int t) {
            int block = act.own[t];
            if (block != 0) {
                return block;
            }
            block = place[t];
            for (int n = 0; n <= VERSIONS && block != 0 && cells[block + 1] > act.begun; n++) {
                block = (int) cells[block];
            }
            return block;
        }

        long cell(int t, int i) {
            return cells[blockIn(view, t) + BLOCK + i];
        }

        void touch(int t) {
            view.marks[t] |= READ;
        }

        long readCell(int t, int i) {
            touch(t);
            return cell(t, i);
        }

        void readClass(int type) {
            view.classesRead |= Types.bit(type);
        }

        boolean roomForChange(int more) {
            return total + more <= CHANGES;
        }

        /** Gives the transaction its own cells of an object. */
        boolean claim(int t) {
            if (view.own[t] == 0) {
                int from = blockIn(view, t);
                int block = roomForChange(size[t]) ? newBlock(size[t]) : 0;
                if (block == 0) {
                    return false;
                }
                System.arraycopy(cells, from + BLOCK, cells, block + BLOCK, size[t]);
                total += size[t];
                view.own[t] = block;
                view.marks[t] |= CHANGED;
            }
            return true;
        }

        void fill(int t, int i, long bits) {
            cells[view.own[t] + BLOCK + i] = bits;
        }

        boolean change(int t, int i, long bits) {
            if (!claim(t)) {
                return false;
            }
            fill(t, i, bits);
            return true;
        }

        /** Copies as far as the references fit; false if one does not. */
        boolean copyCells(int a, int i, int b, int j, int n) {
            touch(a);
            int from = blockIn(view, a) + BLOCK + i;
            int type = types.element[kind[b]];
            int count = n;
            for (int k = 0; k < count && type >= OBJECT; k++) {
                int t = (int) cells[from + k];
                if (t != 0 && !types.isBelow(kind[t], type)) {
                    count = k;
                }
            }
            System.arraycopy(cells, from, cells, view.own[b] + BLOCK + j, count);
            return count == n;
        }

        /** The conflict of a transaction, or NONE. */
        int conflict(Act act) {
            for (int i = 0; i < ROOTS; i++) {
                if (((act.rootsRead | act.rootsChanged) & 1 << i) != 0 && roots[ROOT_CHANGES + i] > act.begun) {
                    return 0;
                }
            }
            for (int t = 1; t < next; t++) {
                boolean isChanged = (act.marks[t] & (READ | CHANGED)) != 0 && changed[t] > act.begun;
                boolean isNew = born[t] >= 0 && born[t] % COLLECTED > act.begun;
                if (isChanged || isNew && hasReadClassOf(act, t)) {
                    return t;
                }
            }
            return NONE;
        }

        boolean hasReadClassOf(Act act, int t) {
            return types.isClass(kind[t]) && (types.above[kind[t]] & act.classesRead) != 0L;
        }

        void commit(Act act) {
            System.arraycopy(roots, newest * ROOTS, roots, newest * ROOTS + ROOTS, ROOTS);
            newest++;
            for (int i = 0; i < ROOTS; i++) {
                if ((act.rootsChanged & 1 << i) != 0) {
                    roots[newest * ROOTS + i] = act.roots[i];
                    roots[ROOT_CHANGES + i] = newest;
                }
            }
            for (int t = 1; t < next; t++) {
                if (act.own[t] != 0) {
                    boolean isNew = (act.marks[t] & CREATED) != 0;
                    cells[act.own[t]] = isNew ? 0L : place[t];
                    cells[act.own[t] + 1] = newest;
                    place[t] = act.own[t];
                    born[t] = isNew ? newest : born[t];
                    changed[t] = isNew ? 0 : newest;
                }
            }
            close(act);
        }

        void discard(Act act) {
            for (int t = 1; t < next; t++) {
                if ((act.marks[t] & CREATED) != 0) {
                    born[t] = LOST;
                }
            }
            close(act);
        }

        private void close(Act act) {
            act.number = 0;
            if (view == act) {
                view = null;
            }
        }

        boolean isNeededBefore(int version) {
            boolean isNeeded = view != null && view.begun < version;
            for (int i = 0; i < ACTS; i++) {
                isNeeded = isNeeded || acts[i].number > 0 && acts[i].begun < version;
            }
            return isNeeded;
        }

        void collect(int t) {
            born[t] += COLLECTED;
            if (kind[t] == TEXT) {
                textOf[place[t]] = 0;
            }
        }

        // The methods below take objects from the log, where they have their numbers already.
        void restoreText(int t, int word) {
            next = t;
            addText(word);
        }

        int restoreBlock(int t, int type, int length) {
            if (born[t] < 0) {
                next = t;
                addFixed(type, length, newBlock(length));
                elements += length;
            }
            return place[t];
        }

        void restoreNothing(int t) {
            if (born[t] >= 0 && kind[t] == TEXT) {
                textOf[place[t]] = 0;
            }
            born[t] = LOST;
        }
    }

    /** Graphs of objects: written, read, compared, and patched. */
    private static final class Graphs {
        private final Store store;
        private final Types types;
        private Bytes written = new Bytes(GRAPH_ROOM);
        private Bytes spare = new Bytes(GRAPH_ROOM);
        // A walk, or the pairs of objects: the first ones and the second ones.
        private final int[] first = new int[OBJECTS + 1];
        private final int[] second = new int[OBJECTS + 1];
        private int met;
        // For an object its number in the walk, or its partner; for a patch backward may be a new object.
        private final int[] forward = new int[OBJECTS + 1];
        private final int[] backward = new int[OBJECTS + 1];
        // The types of a graph, or what the new objects of a patch are.
        private final int[] list = new int[PATCH_ROWS + 1];
        private int listed;
        private final int[] indexOf = new int[TYPES];
        private long[] rows = new long[PATCH_ROWS * ROW_SIZE];
        private long[] newRows = new long[PATCH_ROWS * ROW_SIZE];
        private int rowCount;
        private int made;
        private byte[] source = new byte[0];
        private int at;
        private int limit;
        private int place = NONE;

        Graphs(Store store) {
            this.store = store;
            this.types = store.types;
        }

        void forget() {
            written.length = 0;
            rowCount = 0;
        }

        int writeGraph(int t) {
            walk(t);
            spare.length = 0;
            spare.add(79);
            spare.add(71);
            if (!writeTypes()) {
                return FULL;
            }
            spare.addShort(met);
            for (int i = 0; i < met; i++) {
                spare.addShort(indexOf[store.kind[first[i]]]);
                writeContent(first[i]);
            }
            if (spare.length + 4 > GRAPH_ROOM) {
                return FULL;
            }
            spare.addNumber(checksum(spare.data, spare.length), 4);
            Bytes old = written;
            written = spare;
            spare = old;
            return written.length;
        }

        private void walk(int t) {
            Arrays.fill(forward, 0);
            met = 0;
            meet(t);
            for (int i = 0; i < met && i < OBJECTS; i++) {
                int x = first[i];
                store.touch(x);
                for (int k = 0; k < store.cellsOf(x); k++) {
                    if (types.slotType(store.kind[x], k) >= OBJECT) {
                        meet((int) store.cell(x, k));
                    }
                }
            }
        }

        private void meet(int t) {
            if (t != 0 && forward[t] == 0) {
                first[met] = t;
                met++;
                forward[t] = met;
            }
        }

        private boolean writeTypes() {
            Arrays.fill(indexOf, NONE);
            listed = 0;
            for (int i = 0; i < met; i++) {
                int type = store.kind[first[i]];
                if (indexOf[type] < 0) {
                    if (listed >= GRAPH_TYPES) {
                        return false;
                    }
                    indexOf[type] = listed;
                    list[listed] = type;
                    listed++;
                }
            }
            spare.addShort(listed);
            for (int i = 0; i < listed; i++) {
                types.describe(list[i], spare);
            }
            return true;
        }

        private void writeContent(int t) {
            int type = store.kind[t];
            if (types.sort[type] == IS_ENUM) {
                spare.addShort(store.place[t]);
                return;
            }
            if (type == TEXT || types.sort[type] == IS_ARRAY) {
                spare.addShort(store.size[t]);
            }
            if (type == TEXT) {
                for (int i = 0; i < store.size[t]; i++) {
                    spare.add(store.words.letterOf(store.place[t], i));
                }
            }
            for (int k = 0; k < store.cellsOf(t); k++) {
                int slot = types.slotType(type, k);
                long bits = store.cell(t, k);
                if (slot >= OBJECT) {
                    spare.addShort(forward[(int) bits]);
                } else {
                    spare.addNumber(bits, widthOf(slot));
                }
            }
        }

        private static int widthOf(int type) {
            switch (type) {
                case BOOLEAN: case BYTE: return 1;
                case SHORT: case CHAR: return 2;
                case INT: case FLOAT: return 4;
                default: return 8;
            }
        }

        private static int checksum(byte[] data, int length) {
            int sum = -1;
            for (int i = 0; i < length; i++) {
                sum ^= data[i] & 255;
                for (int n = 0; n < 8; n++) {
                    sum = (sum & 1) != 0 ? sum >>> 1 ^ 0xEDB88320 : sum >>> 1;
                }
            }
            return ~sum;
        }

        int readGraph(byte[] data, int length) {
            source = data;
            limit = length - 4;
            place = Math.max(limit, 0);
            if (length < 8 || (int) Bytes.numberIn(data, limit, 4) != checksum(data, limit)) {
                return BAD_GRAPH;
            }
            if (!examineTypes() || !examineObjects() || !examineReferences()) {
                return BAD_GRAPH;
            }
            return createAll();
        }

        private boolean wrong(int position) {
            place = position;
            return false;
        }

        /** The short number at the cursor, not above the most that is allowed; otherwise NONE, at its place. */
        private int shortNumber(int most) {
            int start = at;
            long value = 0L;
            for (int n = 0; n < 5 && at < limit; n++) {
                int part = source[at] & 255;
                at++;
                value |= (long) (part & 127) << 7 * n;
                if (part < 128) {
                    if (part == 0 && n > 0 || value > most) {
                        break;
                    }
                    return (int) value;
                }
            }
            place = start;
            return NONE;
        }

        private boolean examineTypes() {
            if (source[0] != 79 || source[1] != 71) {
                return wrong(source[0] != 79 ? 0 : 1);
            }
            at = 2;
            int count = shortNumber(GRAPH_TYPES);
            if (count <= 0) {
                return wrong(2);
            }
            Arrays.fill(indexOf, NONE);
            listed = 0;
            for (int i = 0; i < count; i++) {
                if (at >= limit) {
                    return wrong(at);
                }
                int length = source[at] & 255;
                at++;
                int type = at + length > limit ? NONE : types.described(source, at, at + length);
                if (type < 0 || !isWritten(type) || indexOf[type] >= 0) {
                    return wrong(at);
                }
                indexOf[type] = listed;
                list[listed] = type;
                listed++;
                at += length;
            }
            return true;
        }

        private boolean isWritten(int type) {
            return types.hasCells(type) || type == TEXT || types.sort[type] == IS_ENUM;
        }

        private boolean examineObjects() {
            int start = at;
            met = shortNumber(OBJECTS);
            if (met <= 0) {
                return wrong(start);
            }
            for (int i = 0; i < met; i++) {
                int index = shortNumber(listed - 1);
                if (index < 0) {
                    return false;
                }
                first[i] = list[index];
                second[i] = at;
                if (!examineContent(list[index])) {
                    return false;
                }
            }
            return at == limit || wrong(at);
        }

        private boolean examineContent(int type) {
            int sort = types.sort[type];
            if (sort == IS_ENUM) {
                return shortNumber(types.constantsOf(type) - 1) >= 0;
            }
            int count = sort == IS_TEXT ? shortNumber(LETTERS) : sort == IS_ARRAY ? shortNumber(ELEMENTS)
                : types.fieldsOf(type);
            if (count < 0) {
                return false;
            }
            for (int k = 0; k < count; k++) {
                if (!(sort == IS_TEXT ? examineLetter() : examineValue(types.slotType(type, k)))) {
                    return false;
                }
            }
            return true;
        }

        private boolean examineLetter() {
            if (at >= limit || !Words.isLetter(source[at])) {
                return wrong(at);
            }
            at++;
            return true;
        }

        private boolean examineValue(int type) {
            if (type >= OBJECT) {
                return shortNumber(met) >= 0;
            }
            int width = widthOf(type);
            if (at + width > limit || !Types.hasBits(type, bitsAt(type))) {
                return wrong(at);
            }
            at += width;
            return true;
        }

        private long bitsAt(int type) {
            long bits = Bytes.numberIn(source, at, widthOf(type));
            return type >= BYTE && type <= INT ? Types.narrow(bits, type) : bits;
        }

        /** Moves the cursor to the first field or element of an object of the graph and tells their number. */
        private int goTo(int i) {
            at = second[i];
            int type = first[i];
            return types.sort[type] == IS_ARRAY ? shortNumber(ELEMENTS) : types.fieldsOf(type);
        }

        private boolean examineReferences() {
            for (int i = 0; i < met; i++) {
                int count = goTo(i);
                for (int k = 0; k < count; k++) {
                    int type = types.slotType(first[i], k);
                    int start = at;
                    if (type < OBJECT) {
                        at += widthOf(type);
                    } else {
                        int t = shortNumber(met);
                        if (t > 0 && !types.isBelow(first[t - 1], type)) {
                            return wrong(start);
                        }
                    }
                }
            }
            return true;
        }

        private int createAll() {
            boolean hasRoom = hasRoomForAll();
            for (int i = 0; i < met; i++) {
                int word = backward[i];
                if (first[i] == TEXT && store.textOf[word] < 0) {
                    store.textOf[word] = 0;
                }
            }
            if (!hasRoom) {
                return FULL;
            }
            for (int i = 0; i < met; i++) {
                int type = first[i];
                if (type == TEXT) {
                    int t = store.textOf[backward[i]];
                    forward[i] = t > 0 ? t : store.addText(backward[i]);
                } else if (types.sort[type] == IS_ENUM) {
                    at = second[i];
                    forward[i] = types.constantFirst[type] + shortNumber(CONSTANTS) + 1;
                } else {
                    forward[i] = store.create(type, goTo(i));
                }
            }
            for (int i = 0; i < met; i++) {
                fillFrom(i);
            }
            return forward[0];
        }

        /** Counts what has to be created; the texts that do not exist yet are marked meanwhile. */
        private boolean hasRoomForAll() {
            int objects = 0;
            int elements = 0;
            boolean hasRoom = true;
            for (int i = 0; i < met; i++) {
                backward[i] = 0;
                if (first[i] == TEXT) {
                    at = second[i];
                    int length = shortNumber(LETTERS);
                    int word = store.words.intern(source, at, length);
                    hasRoom = hasRoom && word >= 0;
                    backward[i] = Math.max(word, 0);
                    if (word >= 0 && store.textOf[word] == 0) {
                        store.textOf[word] = NONE;
                        objects++;
                    }
                } else if (types.sort[first[i]] != IS_ENUM) {
                    objects++;
                    elements += goTo(i);
                }
            }
            return hasRoom && store.room(objects, elements);
        }

        private void fillFrom(int i) {
            int count = goTo(i);
            for (int k = 0; k < count; k++) {
                int type = types.slotType(first[i], k);
                if (type < OBJECT) {
                    store.fill(forward[i], k, bitsAt(type));
                    at += widthOf(type);
                } else {
                    int t = shortNumber(met);
                    store.fill(forward[i], k, t > 0 ? forward[t - 1] : 0L);
                }
            }
        }

        boolean sameGraphs(int t, int u) {
            startPairs();
            if (!areMet(t, u)) {
                return false;
            }
            for (int p = 0; p < met && p < OBJECTS; p++) {
                int x = first[p];
                int y = second[p];
                if (!store.hasCells(x)) {
                    continue;
                }
                store.touch(x);
                store.touch(y);
                for (int k = 0; k < store.size[x]; k++) {
                    long a = store.cell(x, k);
                    long b = store.cell(y, k);
                    boolean isReference = types.slotType(store.kind[x], k) >= OBJECT;
                    if (isReference ? !areMet((int) a, (int) b) : a != b) {
                        return false;
                    }
                }
            }
            return true;
        }

        private void startPairs() {
            Arrays.fill(forward, 0);
            Arrays.fill(backward, 0);
            met = 0;
        }

        private void pair(int a, int b) {
            first[met] = a;
            second[met] = b;
            met++;
            forward[a] = b;
            backward[b] = a;
        }

        private boolean areMet(int a, int b) {
            if (a == 0 || b == 0) {
                return a == b;
            }
            if (forward[a] != 0 || backward[b] != 0) {
                return forward[a] == b;
            }
            boolean isAlike = store.kind[a] == store.kind[b] && store.size[a] == store.size[b];
            if (!isAlike || !store.hasCells(a) && a != b) {
                return false;
            }
            pair(a, b);
            return true;
        }

        int makePatch(int t, int u) {
            startPairs();
            made = 0;
            listed = 0;
            pair(t, u);
            for (int p = 0; p < met && p < OBJECTS && made <= PATCH_ROWS; p++) {
                comparePair(first[p], second[p]);
            }
            for (int j = 0; j < listed && j <= PATCH_ROWS && made <= PATCH_ROWS; j++) {
                describeNew(j);
            }
            if (made > PATCH_ROWS) {
                return FULL;
            }
            long[] old = rows;
            rows = newRows;
            newRows = old;
            rowCount = made;
            return rowCount;
        }

        private void addRow(int what, int x, int k, long old, long now) {
            if (made < PATCH_ROWS) {
                int from = made * ROW_SIZE;
                newRows[from] = what;
                newRows[from + 1] = x;
                newRows[from + 2] = k;
                newRows[from + 3] = old;
                newRows[from + 4] = now;
            }
            made++;
        }

        private void comparePair(int x, int y) {
            store.touch(x);
            store.touch(y);
            for (int k = 0; k < store.size[x]; k++) {
                long a = store.cell(x, k);
                long b = store.cell(y, k);
                if (types.slotType(store.kind[x], k) >= OBJECT) {
                    refer(x, k, (int) a, (int) b);
                } else if (a != b) {
                    addRow(SET, x, k, a, b);
                }
            }
        }

        /** Describes the original of a new object. */
        private void describeNew(int j) {
            int y = list[j];
            store.touch(y);
            for (int k = 0; k < store.size[y]; k++) {
                long b = store.cell(y, k);
                if (b != 0L && types.slotType(store.kind[y], k) >= OBJECT) {
                    refer(-j - 1, k, 0, (int) b);
                } else if (b != 0L) {
                    addRow(SET, -j - 1, k, 0L, b);
                }
            }
        }

        private void refer(int x, int k, int a, int b) {
            if (b == 0) {
                if (a != 0) {
                    addRow(SET, x, k, a, 0L);
                }
                return;
            }
            if (a != 0 && forward[a] == b) {
                return;
            }
            if (!store.hasCells(b)) {
                if (a != b) {
                    addRow(SET, x, k, a, b);
                }
                return;
            }
            if (backward[b] == 0 && isFree(a) && store.kind[a] == store.kind[b] && store.size[a] == store.size[b]) {
                pair(a, b);
                return;
            }
            if (backward[b] == 0 && listed <= PATCH_ROWS) {
                list[listed] = b;
                listed++;
                backward[b] = -listed;
                addRow(NEW, -listed, store.kind[b], store.isArray(b) ? store.size[b] : 0L, 0L);
            }
            addRow(SET, x, k, a, backward[b]);
        }

        private boolean isFree(int a) {
            return a != 0 && store.hasCells(a) && forward[a] == 0;
        }

        long rowPart(int r, int what) {
            return r < 0 || r >= rowCount || what < 0 || what >= ROW_SIZE ? 0L : rows[r * ROW_SIZE + what];
        }

        int applyPatch() {
            listed = 0;
            for (int r = 0; r < rowCount; r++) {
                if (!examineRow(r * ROW_SIZE)) {
                    return STALE;
                }
            }
            if (!hasRoomForPatch()) {
                return FULL;
            }
            for (int r = 0; r < rowCount; r++) {
                executeRow(r * ROW_SIZE);
            }
            return 0;
        }

        /** Whether the row can be executed; the types of the new objects are listed. */
        private boolean examineRow(int row) {
            if (rows[row] == NEW) {
                list[listed] = (int) rows[row + 2];
                listed++;
                return true;
            }
            int x = (int) rows[row + 1];
            int k = (int) rows[row + 2];
            int type = NONE;
            if (x > 0) {
                if (!store.isAlive(x) || k >= store.cellsOf(x)) {
                    return false;
                }
                if (store.readCell(x, k) != rows[row + 3]) {
                    return false;
                }
                type = store.kind[x];
            } else {
                type = list[-x - 1];
            }
            long now = rows[row + 4];
            return types.slotType(type, k) < OBJECT || now <= 0L || store.isAlive((int) now);
        }

        private boolean hasRoomForPatch() {
            int objects = 0;
            int elements = 0;
            int changes = 0;
            Arrays.fill(forward, 0);
            for (int row = 0; row < rowCount * ROW_SIZE; row += ROW_SIZE) {
                int x = (int) rows[row + 1];
                if (rows[row] == NEW) {
                    objects++;
                    elements += sizeOfNew(row);
                } else if (x > 0 && forward[x] == 0) {
                    forward[x] = 1;
                    changes += store.view.own[x] == 0 ? store.size[x] : 0;
                }
            }
            return store.room(objects, elements) && store.roomForChange(changes);
        }

        private int sizeOfNew(int row) {
            int type = (int) rows[row + 2];
            return types.sort[type] == IS_ARRAY ? (int) rows[row + 3] : types.fieldsOf(type);
        }

        private void executeRow(int row) {
            int x = (int) rows[row + 1];
            if (rows[row] == NEW) {
                second[-x - 1] = store.create((int) rows[row + 2], sizeOfNew(row));
                return;
            }
            int t = x > 0 ? x : second[-x - 1];
            int k = (int) rows[row + 2];
            long now = rows[row + 4];
            boolean isNew = now < 0L && types.slotType(store.kind[t], k) >= OBJECT;
            store.change(t, k, isNew ? second[(int) (-now) - 1] : now);
        }
    }

    /** The log, what a crash leaves of it, and what it restores; and collection, which it records. */
    private static final class Journal {
        private final Store store;
        private final Types types;
        private final Bytes log = new Bytes(LOG_ROOM);
        private final byte[] damages = new byte[LOG_ROOM];
        private int last;
        private int openings;
        // The number of the next object when the last commit was recorded: texts before it are in the log.
        private int since = 1;
        private final boolean[] isReached = new boolean[OBJECTS + 1];
        private final int[] reached = new int[OBJECTS + 1];
        private int count;

        Journal(Store store) {
            this.store = store;
            this.types = store.types;
        }

        boolean writeCommit(Act act) {
            int start = log.length;
            log.addNumber(0L, 4);
            log.add(1);
            log.addNumber(store.newest + 1, 4);
            log.addNumber(store.next, 4);
            int countAt = log.length;
            log.addNumber(0L, 4);
            int written = 0;
            for (int t = 1; t < store.next; t++) {
                boolean isNewText = t >= since && store.kind[t] == TEXT && store.born[t] == 0;
                if (act.own[t] != 0 || isNewText) {
                    writeObject(act, t);
                    written++;
                }
            }
            writeRoots(act);
            setNumber(countAt, written);
            if (!finish(start)) {
                return false;
            }
            since = store.next;
            return true;
        }

        private void writeObject(Act act, int t) {
            log.addNumber(t, 4);
            types.describe(store.kind[t], log);
            log.addNumber(store.size[t], 4);
            if (store.kind[t] == TEXT) {
                for (int i = 0; i < store.size[t]; i++) {
                    log.add(store.words.letterOf(store.place[t], i));
                }
                return;
            }
            for (int i = 0; i < store.size[t]; i++) {
                log.addNumber(store.cells[act.own[t] + BLOCK + i], 8);
            }
        }

        private void writeRoots(Act act) {
            log.addNumber(Integer.bitCount(act.rootsChanged), 4);
            for (int i = 0; i < ROOTS; i++) {
                if ((act.rootsChanged & 1 << i) != 0) {
                    log.add(i);
                    log.addNumber(act.roots[i], 4);
                }
            }
        }

        private void setNumber(int position, int value) {
            int length = log.length;
            log.length = position;
            log.addNumber(value, 4);
            log.length = length;
        }

        /** Ends the record with its sum, or takes it back if there is no room for it. */
        private boolean finish(int start) {
            int length = log.length;
            if (length + 8 > LOG_ROOM) {
                log.length = start;
                return false;
            }
            setNumber(start, length + 8 - start);
            long sum = 0L;
            for (int i = start; i < length; i++) {
                sum = Long.rotateLeft(sum ^ log.byteAt(i), 27) * 0x9E3779B97F4A7C15L;
            }
            log.addNumber(sum, 8);
            last = start;
            return true;
        }

        /** Collects what is not reached in this version, a later one or an open transaction. */
        int collect(int version) {
            reachAll(version);
            int start = log.length;
            log.addNumber(0L, 4);
            log.add(2);
            log.addNumber(version, 4);
            int countAt = log.length;
            log.addNumber(0L, 4);
            int collected = 0;
            for (int t = store.fixed + 1; t < store.next; t++) {
                if (isCollected(t)) {
                    log.addNumber(t, 4);
                    collected++;
                }
            }
            setNumber(countAt, collected);
            if (!finish(start)) {
                return FULL;
            }
            for (int t = store.fixed + 1; t < store.next; t++) {
                if (isCollected(t)) {
                    store.collect(t);
                }
            }
            store.oldest = version;
            return collected;
        }

        private boolean isCollected(int t) {
            return !isReached[t] && store.born[t] >= 0 && store.born[t] <= VERSIONS;
        }

        private void reach(int t) {
            if (t > 0 && !isReached[t]) {
                isReached[t] = true;
                reached[count] = t;
                count++;
            }
        }

        private void reachAll(int version) {
            for (int t = 0; t <= OBJECTS; t++) {
                isReached[t] = false;
            }
            count = 0;
            for (int i = version * ROOTS; i < (store.newest + 1) * ROOTS; i++) {
                reach(store.roots[i]);
            }
            for (int n = 0; n < ACTS; n++) {
                if (store.acts[n].number > 0) {
                    reachFromAct(store.acts[n]);
                }
            }
            for (int i = 0; i < count && i < OBJECTS; i++) {
                reachFrom(reached[i], version);
            }
        }

        private void reachFromAct(Act act) {
            for (int i = 0; i < ROOTS; i++) {
                reach(act.roots[i]);
            }
            for (int t = 1; t < store.next; t++) {
                if (act.marks[t] != 0 || store.isAliveIn(act, t) && store.hasReadClassOf(act, t)) {
                    reach(t);
                }
            }
        }

        private void reachFrom(int t, int version) {
            if (!store.hasCells(t)) {
                return;
            }
            int block = store.place[t];
            for (int n = 0; n <= VERSIONS + 1 && block != 0; n++) {
                reachCells(t, block);
                block = store.cells[block + 1] <= version ? 0 : (int) store.cells[block];
            }
            for (int n = 0; n < ACTS; n++) {
                if (store.acts[n].number > 0 && store.acts[n].own[t] != 0) {
                    reachCells(t, store.acts[n].own[t]);
                }
            }
        }

        private void reachCells(int t, int block) {
            for (int i = 0; i < store.size[t]; i++) {
                if (types.slotType(store.kind[t], i) >= OBJECT) {
                    reach((int) store.cells[block + BLOCK + i]);
                }
            }
        }

        boolean damage(int i, int mask) {
            if (i < 0 || i >= log.length) {
                return false;
            }
            log.data[i] ^= (byte) mask;
            damages[i] ^= (byte) mask;
            return true;
        }

        /** What a crash leaves of the log: of the last record, n bytes. */
        void cut(int n) {
            if (n < log.length - last) {
                log.length = last + n;
            }
        }

        /** Opens: restores what the whole records at the beginning say, and removes the others. */
        void restore() {
            openings++;
            int p = 0;
            last = 0;
            for (int n = 0; n < LOG_ROOM; n++) {
                int length = wholeRecord(p);
                if (length == 0) {
                    break;
                }
                if (log.byteAt(p + 4) == 1) {
                    readCommit(p + 5);
                } else {
                    readCollection(p + 9);
                }
                last = p;
                p += length;
            }
            log.length = p;
            Arrays.fill(damages, (byte) 0);
            store.oldest = store.newest;
            since = store.next;
        }

        private int wholeRecord(int p) {
            long length = log.numberAt(p, 4);
            if (p + 17 > log.length || length < 17L || length > log.length - p) {
                return 0;
            }
            for (int i = p; i < p + length; i++) {
                if (damages[i] != 0) {
                    return 0;
                }
            }
            return (int) length;
        }

        private int intAt(int p) {
            return (int) log.numberAt(p, 4);
        }

        private void readCommit(int from) {
            int version = Math.min(Math.max(intAt(from), 0), VERSIONS);
            int objects = intAt(from + 8);
            int p = from + 12;
            for (int n = 0; n < objects && p < log.length; n++) {
                p = readObject(p);
            }
            System.arraycopy(store.roots, store.newest * ROOTS, store.roots, version * ROOTS, ROOTS);
            store.newest = version;
            store.next = Math.min(Math.max(intAt(from + 4), 1), OBJECTS + 1);
            int roots = intAt(p);
            p += 4;
            for (int n = 0; n < roots && n < ROOTS; n++) {
                store.roots[version * ROOTS + (log.byteAt(p) & ROOTS - 1)] = intAt(p + 1);
                p += 5;
            }
        }

        /** Restores the object that is written here and tells where it ends. */
        private int readObject(int p) {
            int t = intAt(p);
            int behind = p + 5 + log.byteAt(p + 4);
            int pairs = types.pairs(log.data, p + 5, behind);
            int type = types.makeArray(types.base(log.data, p + 5 + pairs, behind), pairs);
            int length = intAt(behind);
            if (type == TEXT) {
                store.restoreText(t, store.words.intern(log.data, behind + 4, length));
                return behind + 4 + length;
            }
            int block = store.restoreBlock(t, type, length);
            for (int i = 0; i < length; i++) {
                store.cells[block + BLOCK + i] = log.numberAt(behind + 4 + 8 * i, 8);
            }
            return behind + 4 + 8 * length;
        }

        private void readCollection(int from) {
            int collected = intAt(from);
            for (int n = 0; n < collected && n < OBJECTS; n++) {
                store.restoreNothing(intAt(from + 4 + 4 * n));
            }
        }
    }
}
