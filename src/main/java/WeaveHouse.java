import java.util.Arrays;

/** A house for a game and its mods: it reads their texts, weaves them together and runs what comes of it. */
public final class WeaveHouse {
    public static final int NONE = -1;

    private static final int TAPE_SIZE = 4000;
    private static final int FEED_SIZE = 20;
    private static final int MOST_MODS = 8;
    private static final int NOT_READ = -2;

    // Kinds of tokens; a sign's kind is its own character.
    private static final int END_TOKEN = 0;
    private static final int BAD_TOKEN = 1;
    private static final int WORD_TOKEN = 2;
    private static final int NUMBER_TOKEN = 3;
    private static final int WORD_SIZE = 10;
    private static final int NUMBER_SIZE = 9;

    private static final int SYNTAX_FAULT = 1;
    private static final int NAME_FAULT = 2;
    private static final int MUCH_FAULT = 3;
    private static final int PILE_FAULT = 4;

    // The words of the grammar; the constants below are their places in this list.
    private static final String KEYS = "field method over head tail ahead behind turn const class patch mod after needs breaks call to";
    private static final int KEY_COUNT = 17;
    private static final int FIELD = 0;
    private static final int METHOD = 1;
    private static final int OVER = 2;
    private static final int HEAD = 3;
    private static final int TAIL = 4;
    private static final int AHEAD = 5;
    private static final int BEHIND = 6;
    private static final int TURNING = 7;
    private static final int CONST = 8;
    private static final int CLASS = 9;
    private static final int PATCH = 10;
    private static final int MOD = 11;
    private static final int AFTER = 12;
    private static final int NEEDS = 13;
    private static final int BREAKS = 14;
    private static final int CALL_SITE = 15;
    private static final int TO = 16;

    // The words of the orders; a kind is the word's place in this list.
    private static final String ORDERS = "push null load store get put pop dup swap add sub mul div less same jump if new call self ret out arg give cancel value set";
    private static final int ORDER_KINDS = 27;
    private static final int PUSH = 0;
    private static final int NULL = 1;
    private static final int LOAD = 2;
    private static final int STORE = 3;
    private static final int GET = 4;
    private static final int PUT = 5;
    private static final int POP = 6;
    private static final int DUP = 7;
    private static final int SWAP = 8;
    private static final int ADD = 9;
    private static final int SUB = 10;
    private static final int MUL = 11;
    private static final int DIV = 12;
    private static final int LESS = 13;
    private static final int SAME = 14;
    private static final int JUMP = 15;
    private static final int IF = 16;
    private static final int NEW = 17;
    private static final int CALL = 18;
    private static final int SELF = 19;
    private static final int RET = 20;
    private static final int OUT = 21;
    private static final int ARG = 22;
    private static final int GIVE = 23;
    private static final int CANCEL = 24;
    private static final int VALUE = 25;
    private static final int SET = 26;
    private static final int TURN = 27;

    // What stands behind an order's word: nothing, a number, a word, a word and a small number, a small number.
    private static final int ANY_NUMBER = 1;
    private static final int ONE_WORD = 2;
    private static final int WORD_AND_NUMBER = 3;
    private static final int SMALL_NUMBER = 4;
    private static final int[] OPERANDS = {1, 0, 2, 2, 2, 2, 0, 0, 0, 0, 0, 0, 0, 0, 0, 2, 2, 2, 3, 0, 0, 0, 4, 4, 0, 0, 0};
    // How many values an order takes and gives; a call takes its number of values besides.
    private static final int[] TAKES = {0, 0, 0, 1, 1, 2, 1, 1, 2, 2, 2, 2, 2, 2, 2, 0, 1, 0, 1, 0, 1, 1, 0, 1, 1, 0, 1};
    private static final int[] GIVES = {1, 1, 1, 0, 1, 0, 0, 2, 2, 1, 1, 1, 1, 1, 1, 0, 0, 1, 1, 1, 0, 0, 1, 0, 0, 1, 0};

    // Limits of a text.
    private static final int TEXT_CLASSES = 16;
    private static final int TEXT_PATCHES = 8;
    private static final int TEXT_PARTS = 24;
    private static final int TEXT_MEMBERS = 12;
    private static final int PATCH_OTHERS = 12;
    private static final int TEXT_WISHES = 4;
    private static final int BODY_NAMES = 8;
    private static final int BODY_ORDERS = 60;
    private static final int BODY_DEPTH = 12;
    private static final int SMALL_MOST = 7;
    // No text of 4000 bytes has more things or bodies, each of 8 bytes at least, or orders, of 4.
    private static final int TEXT_THINGS = 500;
    private static final int TEXT_ORDERS = 1000;

    // Why a mod is left out.
    private static final int RING = 1;
    private static final int NO_NEED = 2;
    private static final int BROKEN = 3;
    private static final int SAME_NAME = 4;
    private static final int THERE = 5;
    private static final int LACKS = 6;
    private static final int CLASH = 7;
    private static final int TOO_MUCH = 8;

    // Limits of the woven game.
    private static final int CLASSES = 24;
    private static final int MEMBERS = 16;
    private static final int SLOTS = 384;
    private static final int NAMES = 768;
    private static final int WOVEN_OF_A_KIND = 6;
    private static final int METHOD_ORDERS = 300;
    private static final int METHOD_VARIABLES = 60;
    private static final int WOVEN_ORDERS = 6000;
    private static final int LOG_SIZE = 768;
    // A row of the log: the mod, its thing, that thing's kind, the method's slot.
    private static final int LOG_ROW = 4;
    private static final int LOG_THING = 1;
    private static final int LOG_KIND = 2;
    private static final int LOG_SLOT = 3;

    // The machine.
    private static final int NOT_STARTED = 0;
    private static final int GOES_ON = 1;
    private static final int DONE = 2;
    private static final int FAILED = 10;
    private static final int NULL_ERROR = 1;
    private static final int KIND_ERROR = 2;
    private static final int FIELD_ERROR = 3;
    private static final int METHOD_ERROR = 4;
    private static final int ZERO_ERROR = 5;
    private static final int DEEP_ERROR = 6;
    private static final int ROOM_ERROR = 7;
    private static final int ARG_ERROR = 8;
    private static final int MOST_STEPS = 20000000;
    private static final int MOST_GO = 100000;
    private static final int MOST_CALLS = 60;
    private static final int MOST_VARIABLES = 600;
    private static final int MOST_OBJECTS = 200;
    private static final int MOST_OUTPUT = 400;
    private static final int CELLS_AT_FIRST = 256;
    // A body's own part and that of a tail, for each call, and the value that main gives.
    private static final int PILE_SIZE = 1441;
    private static final int FRAME = 5;
    private static final String MAIN = "main";
    // A value is an int in the low 32 bits, or an object's number (0: null) with this bit.
    private static final long OBJECT_BIT = 1L << 32;
    private static final long INT_MASK = 0xFFFFFFFFL;

    private final byte[] tape = new byte[TAPE_SIZE];
    private int tapeLength;
    private final Tokens tokens = new Tokens();
    private final Text[] mods = new Text[MOST_MODS];
    private int modCount;
    private boolean hasGame;
    private Text gameText = new Text();
    // What is read goes here, and takes its place only when it has no fault.
    private Text spare = new Text();
    private final Parser parser = new Parser(tokens, spare);
    private final World world = new World(mods, gameText);
    private final Code code = new Code();
    private final Weaver weaver = new Weaver(world, code);
    private final Machine machine = new Machine(code);

    public WeaveHouse() {
    }

    public int feed(int a, int b, int c, int d, int e) {
        if (tapeLength > TAPE_SIZE - FEED_SIZE) {
            return NONE;
        }
        putBytes(a);
        putBytes(b);
        putBytes(c);
        putBytes(d);
        putBytes(e);
        return tapeLength;
    }

    private void putBytes(int number) {
        for (int shift = 24; shift >= 0; shift -= 8) {
            if (tapeLength < TAPE_SIZE) {
                tape[tapeLength] = (byte) (number >> shift);
                tapeLength++;
            }
        }
    }

    public boolean end(int n) {
        if (n < 0 || n > tapeLength) {
            return false;
        }
        tapeLength = n;
        return true;
    }

    public int game() {
        tokens.scan(tape, tapeLength);
        tapeLength = 0;
        if (!parser.readGame(spare)) {
            return NONE;
        }
        Text old = gameText;
        gameText = spare;
        spare = old;
        hasGame = true;
        modCount = 0;
        weaver.forget();
        machine.clear();
        return gameText.classCount;
    }

    public int load() {
        if (!hasGame || modCount >= MOST_MODS) {
            tapeLength = 0;
            return NOT_READ;
        }
        tokens.scan(tape, tapeLength);
        tapeLength = 0;
        if (!parser.readMod(spare)) {
            return NONE;
        }
        Text old = mods[modCount];
        mods[modCount] = spare;
        spare = old == null ? new Text() : old;
        weaver.welcome(modCount);
        modCount++;
        return modCount - 1;
    }

    public int fault(int what) {
        return what == 0 ? tokens.faultKind : what == 1 ? tokens.faultPlace : NONE;
    }

    public boolean turn(int mod, boolean on) {
        if (mod < 0 || mod >= modCount) {
            return false;
        }
        weaver.on[mod] = on;
        return true;
    }

    public int weave() {
        if (!hasGame) {
            return NONE;
        }
        machine.clear();
        return weaver.weaveAll(gameText, modCount);
    }

    public int told(int mod, int what) {
        if (mod < 0 || mod >= modCount) {
            return NONE;
        }
        switch (what) {
            case 0:
                return weaver.whys[mod];
            case 1:
                return weaver.places[mod];
            case 2:
                return machine.stepsOf[mod];
            default:
                return NONE;
        }
    }

    public int count(int what) {
        switch (what) {
            case 0:
                return weaver.woven ? world.classCount : 0;
            case 1:
                return weaver.woven ? weaver.adoptedCount : 0;
            case 2:
                return weaver.woven ? 1 : 0;
            case 3:
                return modCount;
            case 4:
                return tapeLength;
            default:
                return NONE;
        }
    }

    public int klass(int c, int what) {
        if (!isClass(c)) {
            return NONE;
        }
        switch (what) {
            case 0:
                return world.classOwners[c];
            case 1:
                return world.classAboves[c];
            case 2:
                return world.fieldCounts[c];
            case 3:
                return world.methodCounts[c];
            case 4:
                return ordersOf(c);
            default:
                return NONE;
        }
    }

    public int method(int c, int m, int what) {
        if (!isMethod(c, m)) {
            return NONE;
        }
        int slot = c * MEMBERS + m;
        switch (what) {
            case 0:
                return world.methodOwners[slot];
            case 1:
                return code.params[slot];
            case 2:
                return world.bodyVariables(slot);
            case 3:
                return code.sizes[slot];
            case 4:
                return code.variables[slot];
            case 5:
                return world.bodyOwners[slot];
            default:
                return NONE;
        }
    }

    public int order(int c, int m, int i, int what) {
        if (!isMethod(c, m)) {
            return NONE;
        }
        int slot = c * MEMBERS + m;
        if (i < 0 || i >= code.sizes[slot]) {
            return NONE;
        }
        int here = code.firsts[slot] + i;
        switch (what) {
            case 0:
                return code.kinds[here];
            case 1:
                return code.owners[here];
            case 2:
                return code.numbers[here];
            default:
                return NONE;
        }
    }

    private boolean isClass(int c) {
        return weaver.woven && c >= 0 && c < world.classCount;
    }

    private boolean isMethod(int c, int m) {
        return isClass(c) && m >= 0 && m < world.methodCounts[c];
    }

    private int ordersOf(int c) {
        int sum = 0;
        for (int m = 0; m < world.methodCounts[c]; m++) {
            sum += code.sizes[c * MEMBERS + m];
        }
        return sum;
    }

    public boolean start() {
        if (!weaver.woven) {
            return false;
        }
        machine.begin();
        return true;
    }

    public int go(int n) {
        if (n < 0 || n > MOST_GO || machine.condition == NOT_STARTED) {
            return NONE;
        }
        return machine.run(n);
    }

    public int state(int what) {
        if (what < 0 || what > 11) {
            return NONE;
        }
        return machine.condition == NOT_STARTED ? 0 : machine.tell(what);
    }

    public int output(int i) {
        return i >= 0 && i < machine.outputCount ? machine.outputs[i] : 0;
    }

    public int object(int o, int what) {
        return machine.heap.look(o, what);
    }

    public int top(int k, int what) {
        if (k < 0 || k >= machine.pileSize) {
            return 0;
        }
        long value = machine.pile[machine.pileSize - 1 - k];
        if (what == 0) {
            return (int) value;
        }
        return what == 1 && (value & OBJECT_BIT) != 0 ? 1 : 0;
    }

    /** The number of a letter or digit within a word's code, 0 of another character. */
    private static int letterCode(int c) {
        if (c >= 'a' && c <= 'z') {
            return c - 'a' + 1;
        }
        if (c >= 'A' && c <= 'Z') {
            return c - 'A' + 27;
        }
        return isDigit(c) ? c - '0' + 53 : 0;
    }

    private static boolean isDigit(int c) {
        return c >= '0' && c <= '9';
    }

    /** The codes of the words of a list with one blank between them. */
    private static long[] wordsOf(String list, int size) {
        long[] words = new long[size];
        int at = 0;
        for (int i = 0; i < list.length(); i++) {
            int c = list.charAt(i);
            if (c == ' ') {
                at++;
            } else if (at < size) {
                words[at] = words[at] << 6 | letterCode(c);
            }
        }
        return words;
    }

    private static int find(long[] words, int from, int to, long word) {
        for (int i = from; i < to; i++) {
            if (words[i] == word) {
                return i;
            }
        }
        return NONE;
    }

    /** The tokens of a text, the one that is looked at, and the fault that was noticed. */
    private static final class Tokens {
        final int[] kinds = new int[TAPE_SIZE + 1];
        final int[] places = new int[TAPE_SIZE + 1];
        final long[] values = new long[TAPE_SIZE + 1];
        int size;
        int at;
        int lastPlace;
        int lastNumber;
        int faultKind = NONE;
        int faultPlace = NONE;

        void scan(byte[] bytes, int length) {
            size = 0;
            at = 0;
            faultKind = 0;
            faultPlace = NONE;
            int next = 0;
            for (int i = 0; i < length; i++) {
                int c = bytes[i];
                if (i < next || c == ' ' || c == '\n') {
                    continue;
                }
                next = scanOne(bytes, i, length);
                if (kinds[size - 1] == BAD_TOKEN) {
                    break;
                }
            }
            add(END_TOKEN, length, 0);
        }

        private int scanOne(byte[] bytes, int from, int length) {
            int c = bytes[from];
            if (isDigit(c) || c == '-') {
                return scanNumber(bytes, from, length);
            }
            if (letterCode(c) != 0) {
                return scanWord(bytes, from, length);
            }
            add(isSign(c) ? c : BAD_TOKEN, from, 0);
            return from + 1;
        }

        private int scanWord(byte[] bytes, int from, int length) {
            long word = 0;
            int next = from;
            while (next < length && letterCode(bytes[next]) != 0) {
                word = word << 6 | letterCode(bytes[next]);
                next++;
            }
            add(next - from > WORD_SIZE ? BAD_TOKEN : WORD_TOKEN, from, word);
            return next;
        }

        private int scanNumber(byte[] bytes, int from, int length) {
            boolean below = bytes[from] == '-';
            int first = below ? from + 1 : from;
            long number = 0;
            int next = first;
            while (next < length && isDigit(bytes[next])) {
                number = number * 10 + bytes[next] - '0';
                next++;
            }
            int digits = next - first;
            add(digits < 1 || digits > NUMBER_SIZE ? BAD_TOKEN : NUMBER_TOKEN, from, below ? -number : number);
            return next;
        }

        private boolean isSign(int c) {
            return c == '{' || c == '}' || c == '(' || c == ')' || c == ';' || c == ':' || c == ',' || c == '#';
        }

        private void add(int kind, int place, long value) {
            if (size <= TAPE_SIZE) {
                kinds[size] = kind;
                places[size] = place;
                values[size] = value;
                size++;
            }
        }

        boolean sees(int kind) {
            return kinds[at] == kind;
        }

        boolean seesLabel() {
            return kinds[at] == WORD_TOKEN && at + 1 < size && kinds[at + 1] == ':';
        }

        long word() {
            return kinds[at] == WORD_TOKEN ? values[at] : 0;
        }

        int place() {
            return places[at];
        }

        void advance() {
            lastPlace = places[at];
            if (at + 1 < size) {
                at++;
            }
        }

        boolean skip(int sign) {
            if (kinds[at] != sign) {
                return false;
            }
            advance();
            return true;
        }

        boolean takeSign(int sign) {
            if (kinds[at] != sign) {
                return refuse();
            }
            advance();
            return true;
        }

        /** The word that comes, or 0 when there is none. */
        long takeWord() {
            if (kinds[at] != WORD_TOKEN) {
                refuse();
                return 0;
            }
            long word = values[at];
            advance();
            return word;
        }

        boolean takeKey(long key) {
            if (word() != key) {
                return refuse();
            }
            advance();
            return true;
        }

        boolean takeNumber() {
            if (kinds[at] != NUMBER_TOKEN) {
                return refuse();
            }
            lastNumber = (int) values[at];
            advance();
            return true;
        }

        boolean refuse() {
            faultKind = SYNTAX_FAULT;
            faultPlace = places[at];
            return false;
        }

        boolean fail(int kind, int place) {
            faultKind = kind;
            faultPlace = place;
            return false;
        }
    }

    /** Reads games and mods from the tokens into a text. */
    private static final class Parser {
        final Tokens tokens;
        final BodyReader reader;
        final long[] keys = wordsOf(KEYS, KEY_COUNT);
        Text text;
        boolean ofGame;
        // CLASS or PATCH within one, else NONE.
        int open;
        // Things of the open PATCH that are neither fields nor methods.
        int others;

        Parser(Tokens tokens, Text first) {
            this.tokens = tokens;
            reader = new BodyReader(tokens, first.bodies);
            text = first;
        }

        boolean readGame(Text into) {
            begin(into, true);
            for (int i = 0; i <= TAPE_SIZE; i++) {
                if (open == NONE && text.partCount > 0 && tokens.sees(END_TOKEN)) {
                    return pilesHold();
                }
                if (!next()) {
                    return false;
                }
            }
            return false;
        }

        boolean readMod(Text into) {
            begin(into, false);
            if (!tokens.takeKey(keys[MOD])) {
                return false;
            }
            text.name = tokens.takeWord();
            if (text.name == 0 || !wishes() || !tokens.takeSign('{')) {
                return false;
            }
            for (int i = 0; i <= TAPE_SIZE; i++) {
                if (open == NONE && tokens.skip('}')) {
                    return tokens.sees(END_TOKEN) ? pilesHold() : tokens.refuse();
                }
                if (!next()) {
                    return false;
                }
            }
            return false;
        }

        private void begin(Text into, boolean game) {
            text = into;
            text.clear();
            ofGame = game;
            open = NONE;
        }

        private boolean pilesHold() {
            Bodies bodies = text.bodies;
            for (int body = 0; body < bodies.bodyCount; body++) {
                if (!bodies.pileHolds(body)) {
                    return tokens.fail(PILE_FAULT, bodies.places[body]);
                }
            }
            return true;
        }

        private boolean wishes() {
            for (int i = 0; i <= TEXT_WISHES; i++) {
                int kind = find(keys, AFTER, BREAKS + 1, tokens.word());
                if (kind == NONE) {
                    return true;
                }
                tokens.advance();
                long wish = tokens.takeWord();
                if (wish == 0) {
                    return false;
                }
                if (i == TEXT_WISHES) {
                    return tokens.fail(MUCH_FAULT, tokens.lastPlace);
                }
                text.addWish(kind, wish);
            }
            return false;
        }

        /** Reads what comes next: a class or PATCH up to its {, a thing within it, or its }. */
        private boolean next() {
            if (open == NONE) {
                return !ofGame && tokens.word() == keys[PATCH] ? openPatch() : openClass();
            }
            if (tokens.skip('}')) {
                open = NONE;
                return true;
            }
            int kind = find(keys, FIELD, open == CLASS ? METHOD + 1 : CONST + 1, tokens.word());
            switch (kind) {
                case NONE:
                    return tokens.refuse();
                case FIELD:
                    return namedThing(FIELD) != NONE && tokens.takeSign(';');
                case METHOD:
                    return methodThing();
                case TURNING:
                    return turnThing();
                case CONST:
                    return constThing();
                default:
                    return wovenThing(kind);
            }
        }

        private boolean openClass() {
            if (!tokens.takeKey(keys[CLASS])) {
                return false;
            }
            long name = tokens.takeWord();
            if (name == 0) {
                return false;
            }
            if (text.hasClass(name)) {
                return tokens.fail(NAME_FAULT, tokens.lastPlace);
            }
            if (text.classCount >= TEXT_CLASSES) {
                return tokens.fail(MUCH_FAULT, tokens.lastPlace);
            }
            long above = 0;
            if (tokens.skip(':')) {
                above = tokens.takeWord();
                if (above == 0) {
                    return false;
                }
                if (ofGame && !text.hasClass(above)) {
                    return tokens.fail(NAME_FAULT, tokens.lastPlace);
                }
            }
            text.addPart(CLASS, name, above);
            open = CLASS;
            return tokens.takeSign('{');
        }

        private boolean openPatch() {
            if (text.patchCount >= TEXT_PATCHES) {
                return tokens.fail(MUCH_FAULT, tokens.place());
            }
            tokens.advance();
            long name = tokens.takeWord();
            if (name == 0) {
                return false;
            }
            text.addPart(PATCH, name, 0);
            open = PATCH;
            others = 0;
            return tokens.takeSign('{');
        }

        /** A new thing of the kind whose word comes, with its name; NONE when it has a fault. */
        private int namedThing(int kind) {
            if (kind >= OVER) {
                others++;
                if (others > PATCH_OTHERS) {
                    tokens.fail(MUCH_FAULT, tokens.place());
                    return NONE;
                }
            }
            tokens.advance();
            long name = tokens.takeWord();
            if (name == 0) {
                return NONE;
            }
            if (kind <= METHOD && text.partHas(kind, name)) {
                tokens.fail(NAME_FAULT, tokens.lastPlace);
                return NONE;
            }
            boolean full = kind <= METHOD && text.partCountOf(kind) >= TEXT_MEMBERS;
            int thing = full ? NONE : text.addThing(kind, name);
            if (thing == NONE) {
                tokens.fail(MUCH_FAULT, tokens.lastPlace);
            }
            return thing;
        }

        private boolean methodThing() {
            int thing = namedThing(METHOD);
            if (thing == NONE || !tokens.takeSign('(')) {
                return false;
            }
            reader.clearNames();
            if (!tokens.skip(')') && !parameters()) {
                return false;
            }
            text.thingBodies[thing] = reader.read(text.bodies, METHOD);
            return text.thingBodies[thing] != NONE;
        }

        private boolean parameters() {
            for (int i = 0; i <= BODY_NAMES; i++) {
                long name = tokens.takeWord();
                if (name == 0) {
                    return false;
                }
                if (reader.hasName(name)) {
                    return tokens.fail(NAME_FAULT, tokens.lastPlace);
                }
                if (i == BODY_NAMES) {
                    return tokens.fail(MUCH_FAULT, tokens.lastPlace);
                }
                reader.addParameter(name);
                if (tokens.skip(')')) {
                    return true;
                }
                if (!tokens.takeSign(',')) {
                    return false;
                }
            }
            return false;
        }

        private boolean wovenThing(int kind) {
            int thing = namedThing(kind);
            if (thing == NONE || kind >= AHEAD && !site(thing)) {
                return false;
            }
            reader.clearNames();
            text.thingBodies[thing] = reader.read(text.bodies, kind);
            return text.thingBodies[thing] != NONE;
        }

        private boolean site(int thing) {
            if (!tokens.takeKey(keys[CALL_SITE])) {
                return false;
            }
            text.thingSites[thing] = tokens.takeWord();
            return text.thingSites[thing] != 0 && which(thing);
        }

        private boolean which(int thing) {
            if (!tokens.skip('#')) {
                return true;
            }
            if (!tokens.takeNumber()) {
                return false;
            }
            if (tokens.lastNumber < 1) {
                return tokens.fail(MUCH_FAULT, tokens.lastPlace);
            }
            text.thingNths[thing] = tokens.lastNumber;
            return true;
        }

        private boolean turnThing() {
            int thing = namedThing(TURNING);
            if (thing == NONE || !site(thing) || !tokens.takeKey(keys[TO])) {
                return false;
            }
            text.thingTos[thing] = tokens.takeWord();
            return text.thingTos[thing] != 0 && tokens.takeSign(';');
        }

        private boolean constThing() {
            int thing = namedThing(CONST);
            if (thing == NONE || !tokens.takeNumber()) {
                return false;
            }
            text.thingSites[thing] = tokens.lastNumber;
            if (!which(thing) || !tokens.takeKey(keys[TO]) || !tokens.takeNumber()) {
                return false;
            }
            text.thingTos[thing] = tokens.lastNumber;
            return tokens.takeSign(';');
        }
    }

    /** Reads one body: its names, labels and orders. */
    private static final class BodyReader {
        final Tokens tokens;
        final long[] words = wordsOf(ORDERS, ORDER_KINDS);
        final long[] names = new long[BODY_NAMES];
        int nameCount;
        int paramCount;
        final long[] labels = new long[BODY_ORDERS + 1];
        final int[] labelPlaces = new int[BODY_ORDERS + 1];
        int labelCount;
        final int[] wordPlaces = new int[BODY_ORDERS];
        Bodies bodies;

        BodyReader(Tokens tokens, Bodies first) {
            this.tokens = tokens;
            bodies = first;
        }

        void clearNames() {
            nameCount = 0;
            paramCount = 0;
        }

        boolean hasName(long name) {
            return find(names, 0, nameCount, name) != NONE;
        }

        void addParameter(long name) {
            addName(name);
            paramCount = nameCount;
        }

        private void addName(long name) {
            if (nameCount < BODY_NAMES) {
                names[nameCount] = name;
                nameCount++;
            }
        }

        /** The number of the body that comes, or NONE when it has a fault. */
        int read(Bodies into, int kind) {
            bodies = into;
            labelCount = 0;
            int place = tokens.place();
            if (!tokens.takeSign('{')) {
                return NONE;
            }
            int body = bodies.open(kind, place);
            if (body == NONE) {
                tokens.fail(MUCH_FAULT, place);
                return NONE;
            }
            for (int i = 0; i <= TAPE_SIZE; i++) {
                if (tokens.skip('}')) {
                    bodies.params[body] = paramCount;
                    bodies.variables[body] = nameCount - paramCount;
                    return namesHold(body) ? body : NONE;
                }
                if (!readLabel(body) || !readOrder(body, kind)) {
                    return NONE;
                }
            }
            return NONE;
        }

        private boolean readLabel(int body) {
            if (!tokens.seesLabel()) {
                return true;
            }
            long label = tokens.takeWord();
            if (find(labels, 0, labelCount, label) != NONE) {
                return tokens.fail(NAME_FAULT, tokens.lastPlace);
            }
            if (labelCount <= BODY_ORDERS) {
                labels[labelCount] = label;
                labelPlaces[labelCount] = bodies.sizes[body];
                labelCount++;
            }
            tokens.advance();
            return true;
        }

        private boolean readOrder(int body, int kind) {
            int what = find(words, 0, ORDER_KINDS, tokens.word());
            if (what == NONE || !isOrderOf(what, kind)) {
                return tokens.refuse();
            }
            if (bodies.sizes[body] >= BODY_ORDERS) {
                return tokens.fail(MUCH_FAULT, tokens.place());
            }
            tokens.advance();
            int operands = OPERANDS[what];
            long word = 0;
            int number = 0;
            if (operands == ONE_WORD || operands == WORD_AND_NUMBER) {
                word = tokens.takeWord();
                if (word == 0) {
                    return false;
                }
                wordPlaces[bodies.sizes[body]] = tokens.lastPlace;
            }
            if (what == STORE) {
                number = storedName(word);
                if (number == NONE) {
                    return false;
                }
            }
            if (operands == ANY_NUMBER || operands == WORD_AND_NUMBER || operands == SMALL_NUMBER) {
                if (!tokens.takeNumber()) {
                    return false;
                }
                number = tokens.lastNumber;
                if (operands != ANY_NUMBER && (number < 0 || number > SMALL_MOST)) {
                    return tokens.fail(MUCH_FAULT, tokens.lastPlace);
                }
            }
            bodies.addOrder(body, what, number, word);
            return tokens.takeSign(';');
        }

        private int storedName(long word) {
            int known = find(names, 0, nameCount, word);
            if (known != NONE) {
                return known;
            }
            if (nameCount >= BODY_NAMES) {
                tokens.fail(MUCH_FAULT, tokens.lastPlace);
                return NONE;
            }
            addName(word);
            return nameCount - 1;
        }

        private boolean isOrderOf(int what, int kind) {
            switch (what) {
                case RET:
                    return kind == METHOD || kind == OVER;
                case ARG:
                case GIVE:
                    return kind != METHOD;
                case CANCEL:
                    return kind == HEAD;
                case VALUE:
                case SET:
                    return kind == TAIL;
                default:
                    return true;
            }
        }

        /** Gives jumps and loads what their words mean, now that all labels and stores are known. */
        private boolean namesHold(int body) {
            int first = bodies.firsts[body];
            for (int i = 0; i < bodies.sizes[body]; i++) {
                int kind = bodies.orderKinds[first + i];
                long word = bodies.orderWords[first + i];
                if (kind == LOAD) {
                    int name = find(names, 0, nameCount, word);
                    if (name == NONE) {
                        return tokens.fail(NAME_FAULT, wordPlaces[i]);
                    }
                    bodies.orderNumbers[first + i] = name;
                } else if (kind == JUMP || kind == IF) {
                    int label = find(labels, 0, labelCount, word);
                    if (label == NONE) {
                        return tokens.fail(NAME_FAULT, wordPlaces[i]);
                    }
                    bodies.orderNumbers[first + i] = labelPlaces[label];
                }
            }
            return true;
        }
    }

    /** What a game's or mod's text tells: wishes, classes and patches, and the things in them. */
    private static final class Text {
        long name;
        int wishCount;
        final int[] wishKinds = new int[TEXT_WISHES];
        final long[] wishNames = new long[TEXT_WISHES];
        int partCount;
        int classCount;
        int patchCount;
        final int[] partKinds = new int[TEXT_PARTS];
        final long[] partNames = new long[TEXT_PARTS];
        final long[] partAboves = new long[TEXT_PARTS];
        final int[] partFirsts = new int[TEXT_PARTS];
        int thingCount;
        final int[] thingKinds = new int[TEXT_THINGS];
        final long[] thingNames = new long[TEXT_THINGS];
        final int[] thingBodies = new int[TEXT_THINGS];
        // Of ahead, behind, turn the called word, of const the number; which one of these (0: all); what it becomes.
        final long[] thingSites = new long[TEXT_THINGS];
        final int[] thingNths = new int[TEXT_THINGS];
        final long[] thingTos = new long[TEXT_THINGS];
        final Bodies bodies = new Bodies();

        void clear() {
            name = 0;
            wishCount = 0;
            partCount = 0;
            classCount = 0;
            patchCount = 0;
            thingCount = 0;
            bodies.clear();
        }

        void addWish(int kind, long word) {
            if (wishCount < TEXT_WISHES) {
                wishKinds[wishCount] = kind;
                wishNames[wishCount] = word;
                wishCount++;
            }
        }

        boolean wishes(int kind, long word) {
            for (int i = 0; i < wishCount; i++) {
                if (wishKinds[i] == kind && wishNames[i] == word) {
                    return true;
                }
            }
            return false;
        }

        boolean hasClass(long word) {
            for (int i = 0; i < partCount; i++) {
                if (partKinds[i] == CLASS && partNames[i] == word) {
                    return true;
                }
            }
            return false;
        }

        void addPart(int kind, long word, long above) {
            if (partCount >= TEXT_PARTS) {
                return;
            }
            partKinds[partCount] = kind;
            partNames[partCount] = word;
            partAboves[partCount] = above;
            partFirsts[partCount] = thingCount;
            partCount++;
            if (kind == CLASS) {
                classCount++;
            } else {
                patchCount++;
            }
        }

        int partEnd(int part) {
            return part + 1 < partCount ? partFirsts[part + 1] : thingCount;
        }

        boolean partHas(int kind, long word) {
            if (partCount == 0) {
                return false;
            }
            for (int i = partFirsts[partCount - 1]; i < thingCount; i++) {
                if (thingKinds[i] == kind && thingNames[i] == word) {
                    return true;
                }
            }
            return false;
        }

        int partCountOf(int kind) {
            if (partCount == 0) {
                return 0;
            }
            int sum = 0;
            for (int i = partFirsts[partCount - 1]; i < thingCount; i++) {
                if (thingKinds[i] == kind) {
                    sum++;
                }
            }
            return sum;
        }

        int addThing(int kind, long word) {
            if (thingCount >= TEXT_THINGS) {
                return NONE;
            }
            thingKinds[thingCount] = kind;
            thingNames[thingCount] = word;
            thingBodies[thingCount] = NONE;
            thingSites[thingCount] = 0;
            thingNths[thingCount] = 0;
            thingTos[thingCount] = 0;
            thingCount++;
            return thingCount - 1;
        }

        /** The kind of the orders that a thing stands at. */
        int siteKind(int thing) {
            return thingKinds[thing] == CONST ? PUSH : thingKinds[thing] == TAIL ? RET : CALL;
        }

        /** At how many places of a body a thing stands. */
        int placesIn(int thing, Bodies theirs, int body) {
            if (thingKinds[thing] == HEAD) {
                return 1;
            }
            int times = theirs.times(body, theirs.sizes[body], siteKind(thing), thingSites[thing]);
            if (thingNths[thing] == 0) {
                return times;
            }
            return thingNths[thing] <= times ? 1 : 0;
        }

        /** Whether a thing stands at this order of a body. */
        boolean standsAt(int thing, Bodies theirs, int body, int at) {
            int here = theirs.firsts[body] + at;
            int kind = siteKind(thing);
            long site = thingSites[thing];
            if (theirs.orderKinds[here] != kind || theirs.orderWords[here] != site) {
                return false;
            }
            return thingNths[thing] == 0 || theirs.times(body, at, kind, site) + 1 == thingNths[thing];
        }
    }

    /** The bodies of a text and their orders. */
    private static final class Bodies {
        int bodyCount;
        final int[] kinds = new int[TEXT_THINGS];
        final int[] places = new int[TEXT_THINGS];
        final int[] params = new int[TEXT_THINGS];
        final int[] variables = new int[TEXT_THINGS];
        final int[] firsts = new int[TEXT_THINGS];
        final int[] sizes = new int[TEXT_THINGS];
        int orderCount;
        final int[] orderKinds = new int[TEXT_ORDERS];
        // Of a load or store which name, of a jump or if which order of the body.
        final int[] orderNumbers = new int[TEXT_ORDERS];
        // Of a push its number once more, so that sites of calls and of numbers are found alike.
        final long[] orderWords = new long[TEXT_ORDERS];
        // NONE where the order can't be come to.
        final int[] depths = new int[TEXT_ORDERS];
        final int[] waiting = new int[BODY_ORDERS];
        int waitingCount;

        void clear() {
            bodyCount = 0;
            orderCount = 0;
        }

        int open(int kind, int place) {
            if (bodyCount >= TEXT_THINGS) {
                return NONE;
            }
            kinds[bodyCount] = kind;
            places[bodyCount] = place;
            params[bodyCount] = 0;
            variables[bodyCount] = 0;
            firsts[bodyCount] = orderCount;
            sizes[bodyCount] = 0;
            bodyCount++;
            return bodyCount - 1;
        }

        void addOrder(int body, int kind, int number, long word) {
            if (orderCount >= TEXT_ORDERS) {
                return;
            }
            orderKinds[orderCount] = kind;
            orderNumbers[orderCount] = number;
            orderWords[orderCount] = kind == PUSH ? number : word;
            orderCount++;
            sizes[body]++;
        }

        /** How many of a body's first orders are of a kind, with that number of a push or word of a call. */
        int times(int body, int upTo, int kind, long operand) {
            int sum = 0;
            for (int i = firsts[body]; i < firsts[body] + upTo; i++) {
                if (orderKinds[i] == kind && orderWords[i] == operand) {
                    sum++;
                }
            }
            return sum;
        }

        boolean pileHolds(int body) {
            int size = sizes[body];
            Arrays.fill(depths, firsts[body], firsts[body] + size, NONE);
            waitingCount = 0;
            if (!comesTo(body, 0, 0)) {
                return false;
            }
            for (int i = 0; i < size && waitingCount > 0; i++) {
                waitingCount--;
                if (!passes(body, waiting[waitingCount])) {
                    return false;
                }
            }
            return true;
        }

        private boolean passes(int body, int at) {
            int here = firsts[body] + at;
            int kind = orderKinds[here];
            int takes = TAKES[kind] + (kind == CALL ? orderNumbers[here] : 0);
            if (depths[here] < takes) {
                return false;
            }
            int behind = depths[here] - takes + GIVES[kind];
            if (behind > BODY_DEPTH) {
                return false;
            }
            if (kind == RET || kind == CANCEL) {
                return true;
            }
            if ((kind == JUMP || kind == IF) && !comesTo(body, orderNumbers[here], behind)) {
                return false;
            }
            return kind == JUMP || comesTo(body, at + 1, behind);
        }

        private boolean comesTo(int body, int at, int depth) {
            if (at >= sizes[body]) {
                return kinds[body] != METHOD && kinds[body] != OVER && depth == 0;
            }
            int here = firsts[body] + at;
            if (depths[here] != NONE) {
                return depths[here] == depth;
            }
            depths[here] = depth;
            if (waitingCount < BODY_ORDERS) {
                waiting[waitingCount] = at;
                waitingCount++;
            }
            return true;
        }
    }

    /** The classes with their members, and what is woven into them, as the game and the adopted mods make them. */
    private static final class World {
        int classCount;
        final long[] classNames = new long[CLASSES];
        final int[] classOwners = new int[CLASSES];
        final int[] classAboves = new int[CLASSES];
        final int[] fieldCounts = new int[CLASSES];
        final int[] methodCounts = new int[CLASSES];
        // Members stand at slots: 16 for each class.
        final long[] fieldNames = new long[SLOTS];
        final int[] fieldOwners = new int[SLOTS];
        final long[] methodNames = new long[SLOTS];
        final int[] methodOwners = new int[SLOTS];
        final int[] ownBodies = new int[SLOTS];
        final int[] bodyOwners = new int[SLOTS];
        final int[] bodyNumbers = new int[SLOTS];
        // What was woven into methods, in that order.
        int logCount;
        final int[] log = new int[LOG_SIZE * LOG_ROW];
        // Of each order of a slot's body the row of the log that turned or changed it, and 1; else 0.
        final int[] changers = new int[SLOTS * BODY_ORDERS];
        Text gameText;
        final Text[] mods;

        World(Text[] mods, Text gameText) {
            this.mods = mods;
            this.gameText = gameText;
        }

        void clear(Text ofGame) {
            gameText = ofGame;
            classCount = 0;
            logCount = 0;
        }

        Text textOf(int owner) {
            return owner < 0 || owner >= MOST_MODS || mods[owner] == null ? gameText : mods[owner];
        }

        int classNamed(long name) {
            return find(classNames, 0, classCount, name);
        }

        boolean hasField(int c, long name) {
            return find(fieldNames, c * MEMBERS, c * MEMBERS + fieldCounts[c], name) != NONE;
        }

        /** The slot of a method that the class itself has, or NONE. */
        int slotOf(int c, long name) {
            return find(methodNames, c * MEMBERS, c * MEMBERS + methodCounts[c], name);
        }

        boolean hasMethodFrom(int c, long name) {
            int k = c;
            for (int i = 0; i < CLASSES && k >= 0; i++) {
                if (find(methodNames, k * MEMBERS, k * MEMBERS + methodCounts[k], name) != NONE) {
                    return true;
                }
                k = classAboves[k];
            }
            return false;
        }

        /** Puts a class of a text, with its members, behind the others. */
        void addClass(int owner, Text from, int part) {
            if (classCount >= CLASSES) {
                return;
            }
            int c = classCount;
            long above = from.partAboves[part];
            classNames[c] = from.partNames[part];
            classOwners[c] = owner;
            classAboves[c] = above == 0 ? NONE : classNamed(above);
            fieldCounts[c] = 0;
            methodCounts[c] = 0;
            classCount++;
            int end = from.partEnd(part);
            for (int i = from.partFirsts[part]; i < end; i++) {
                if (from.thingKinds[i] == FIELD) {
                    addField(c, owner, from.thingNames[i]);
                } else {
                    addMethod(c, owner, from.thingNames[i], from.thingBodies[i]);
                }
            }
        }

        void addField(int c, int owner, long name) {
            if (fieldCounts[c] < MEMBERS) {
                int slot = c * MEMBERS + fieldCounts[c];
                fieldNames[slot] = name;
                fieldOwners[slot] = owner;
                fieldCounts[c]++;
            }
        }

        void addMethod(int c, int owner, long name, int body) {
            if (methodCounts[c] < MEMBERS) {
                int slot = c * MEMBERS + methodCounts[c];
                methodNames[slot] = name;
                methodOwners[slot] = owner;
                ownBodies[slot] = body;
                bodyOwners[slot] = owner;
                bodyNumbers[slot] = body;
                Arrays.fill(changers, slot * BODY_ORDERS, (slot + 1) * BODY_ORDERS, 0);
                methodCounts[c]++;
            }
        }

        void record(int mod, int thing, int kind, int slot) {
            if (logCount < LOG_SIZE) {
                int row = logCount * LOG_ROW;
                log[row] = mod;
                log[row + LOG_THING] = thing;
                log[row + LOG_KIND] = kind;
                log[row + LOG_SLOT] = slot;
                logCount++;
            }
        }

        int recorded(int slot, int kind) {
            int sum = 0;
            for (int row = 0; row < logCount * LOG_ROW; row += LOG_ROW) {
                if (log[row + LOG_SLOT] == slot && log[row + LOG_KIND] == kind) {
                    sum++;
                }
            }
            return sum;
        }

        /** Takes all away that is of this mod, the latest: what is its own stands behind the rest everywhere. */
        void undo(int mod) {
            for (int i = logCount - 1; i >= 0 && log[i * LOG_ROW] == mod; i--) {
                undoRow(i);
                logCount--;
            }
            for (int c = classCount - 1; c >= 0 && classOwners[c] == mod; c--) {
                classCount--;
            }
            for (int c = 0; c < classCount; c++) {
                fieldCounts[c] = leftWithout(mod, fieldOwners, c * MEMBERS, fieldCounts[c]);
                methodCounts[c] = leftWithout(mod, methodOwners, c * MEMBERS, methodCounts[c]);
            }
        }

        private void undoRow(int i) {
            int kind = log[i * LOG_ROW + LOG_KIND];
            int slot = log[i * LOG_ROW + LOG_SLOT];
            if (kind == OVER) {
                bodyOwners[slot] = methodOwners[slot];
                bodyNumbers[slot] = ownBodies[slot];
            } else if (kind == TURNING || kind == CONST) {
                for (int k = slot * BODY_ORDERS; k < (slot + 1) * BODY_ORDERS; k++) {
                    if (changers[k] == i + 1) {
                        changers[k] = 0;
                    }
                }
            }
        }

        private int leftWithout(int mod, int[] owners, int first, int size) {
            int left = size;
            for (int i = first + size - 1; i >= first && owners[i] == mod; i--) {
                left--;
            }
            return left;
        }

        Bodies bodiesOf(int slot) {
            return textOf(bodyOwners[slot]).bodies;
        }

        int bodyVariables(int slot) {
            return bodiesOf(slot).variables[bodyNumbers[slot]];
        }

        int paramsOf(int slot) {
            return textOf(methodOwners[slot]).bodies.params[ownBodies[slot]];
        }
    }

    /** Finds the row of the mods, adopts them or finds why not, and has the code made. */
    private static final class Weaver {
        final World world;
        final Coder coder;
        final boolean[] on = new boolean[MOST_MODS];
        final int[] whys = new int[MOST_MODS];
        final int[] places = new int[MOST_MODS];
        final int[] row = new int[MOST_MODS];
        final boolean[] adopted = new boolean[MOST_MODS];
        int adoptedCount;
        int modCount;
        boolean woven;
        // The mod that is looked at, and its text.
        int mod;
        Text text;

        Weaver(World world, Code code) {
            this.world = world;
            coder = new Coder(world, code);
            text = world.gameText;
        }

        void forget() {
            woven = false;
        }

        void welcome(int number) {
            if (number >= 0 && number < MOST_MODS) {
                on[number] = true;
                whys[number] = NONE;
                places[number] = NONE;
            }
        }

        int weaveAll(Text gameText, int mods) {
            modCount = Math.min(mods, MOST_MODS);
            adoptedCount = 0;
            for (int m = 0; m < MOST_MODS; m++) {
                whys[m] = NONE;
                places[m] = NONE;
                adopted[m] = false;
            }
            world.clear(gameText);
            for (int part = 0; part < gameText.partCount; part++) {
                world.addClass(NONE, gameText, part);
            }
            int rowSize = findRow();
            for (int i = 0; i < rowSize; i++) {
                adopt(row[i]);
            }
            coder.fits();
            coder.makeAll();
            woven = true;
            return adoptedCount;
        }

        private int findRow() {
            int size = 0;
            for (int i = 0; i < modCount; i++) {
                int next = nextInRow();
                if (next != NONE) {
                    row[size] = next;
                    places[next] = size;
                    size++;
                }
            }
            for (int m = 0; m < modCount; m++) {
                if (on[m] && places[m] == NONE) {
                    whys[m] = RING;
                }
            }
            return size;
        }

        private int nextInRow() {
            for (int m = 0; m < modCount; m++) {
                if (on[m] && places[m] == NONE && !waits(m)) {
                    return m;
                }
            }
            return NONE;
        }

        private boolean waits(int m) {
            Text waiting = world.textOf(m);
            for (int other = 0; other < modCount; other++) {
                long name = world.textOf(other).name;
                if (on[other] && places[other] == NONE && (waiting.wishes(AFTER, name) || waiting.wishes(NEEDS, name))) {
                    return true;
                }
            }
            return false;
        }

        private void adopt(int m) {
            mod = m;
            text = world.textOf(m);
            int why = wishesWhy();
            for (int part = 0; part < text.partCount && why == 0; part++) {
                why = text.partKinds[part] == CLASS ? classWhy(part) : patchWhy(part);
            }
            if (why == 0 && !coder.fits()) {
                why = TOO_MUCH;
            }
            whys[m] = why;
            if (why == 0) {
                adopted[m] = true;
                adoptedCount++;
            } else {
                world.undo(m);
            }
        }

        private int wishesWhy() {
            for (int i = 0; i < text.wishCount; i++) {
                if (text.wishKinds[i] == NEEDS && !isAdopted(text.wishNames[i])) {
                    return NO_NEED;
                }
            }
            for (int m = 0; m < modCount; m++) {
                Text other = world.textOf(m);
                if (adopted[m] && (text.wishes(BREAKS, other.name) || other.wishes(BREAKS, text.name))) {
                    return BROKEN;
                }
            }
            return isAdopted(text.name) ? SAME_NAME : 0;
        }

        private boolean isAdopted(long name) {
            for (int m = 0; m < modCount; m++) {
                if (adopted[m] && world.textOf(m).name == name) {
                    return true;
                }
            }
            return false;
        }

        private int classWhy(int part) {
            long above = text.partAboves[part];
            if (world.classNamed(text.partNames[part]) != NONE) {
                return THERE;
            }
            if (above != 0 && world.classNamed(above) == NONE) {
                return LACKS;
            }
            if (world.classCount >= CLASSES) {
                return TOO_MUCH;
            }
            world.addClass(mod, text, part);
            return 0;
        }

        private int patchWhy(int part) {
            int c = world.classNamed(text.partNames[part]);
            if (c == NONE) {
                return LACKS;
            }
            int why = 0;
            int end = text.partEnd(part);
            for (int thing = text.partFirsts[part]; thing < end && why == 0; thing++) {
                why = text.thingKinds[thing] <= METHOD ? memberWhy(thing, c) : weaveWhy(thing, c);
                if (why == 0) {
                    apply(thing, c);
                }
            }
            return why;
        }

        private int memberWhy(int thing, int c) {
            long name = text.thingNames[thing];
            boolean isField = text.thingKinds[thing] == FIELD;
            if (isField ? world.hasField(c, name) : world.slotOf(c, name) != NONE) {
                return THERE;
            }
            int size = isField ? world.fieldCounts[c] : world.methodCounts[c];
            return size >= MEMBERS ? TOO_MUCH : 0;
        }

        private int weaveWhy(int thing, int c) {
            int slot = world.slotOf(c, text.thingNames[thing]);
            if (slot == NONE) {
                return LACKS;
            }
            int kind = text.thingKinds[thing];
            if (kind >= AHEAD && text.placesIn(thing, world.bodiesOf(slot), world.bodyNumbers[slot]) == 0) {
                return LACKS;
            }
            if (kind == TURNING && !world.hasMethodFrom(c, text.thingTos[thing])) {
                return LACKS;
            }
            if (kind == OVER) {
                return isFixed(slot) ? CLASH : 0;
            }
            if (kind == TURNING || kind == CONST) {
                return isChanged(thing, slot) ? CLASH : 0;
            }
            return world.recorded(slot, kind) >= WOVEN_OF_A_KIND ? TOO_MUCH : 0;
        }

        /** Whether a method has something woven in that its body must stay for. */
        private boolean isFixed(int slot) {
            for (int i = 0; i < world.logCount * LOG_ROW; i += LOG_ROW) {
                int kind = world.log[i + LOG_KIND];
                if (world.log[i + LOG_SLOT] == slot && kind != HEAD && kind != TAIL) {
                    return true;
                }
            }
            return false;
        }

        private boolean isChanged(int thing, int slot) {
            Bodies bodies = world.bodiesOf(slot);
            int body = world.bodyNumbers[slot];
            for (int at = 0; at < bodies.sizes[body]; at++) {
                if (world.changers[slot * BODY_ORDERS + at] != 0 && text.standsAt(thing, bodies, body, at)) {
                    return true;
                }
            }
            return false;
        }

        private void apply(int thing, int c) {
            long name = text.thingNames[thing];
            int kind = text.thingKinds[thing];
            if (kind == FIELD) {
                world.addField(c, mod, name);
                return;
            }
            if (kind == METHOD) {
                world.addMethod(c, mod, name, text.thingBodies[thing]);
                return;
            }
            int slot = world.slotOf(c, name);
            if (slot == NONE) {
                return;
            }
            world.record(mod, thing, kind, slot);
            if (kind == OVER) {
                world.bodyOwners[slot] = mod;
                world.bodyNumbers[slot] = text.thingBodies[thing];
            } else if (kind == TURNING || kind == CONST) {
                markChanged(thing, slot);
            }
        }

        private void markChanged(int thing, int slot) {
            Bodies bodies = world.bodiesOf(slot);
            int body = world.bodyNumbers[slot];
            for (int at = 0; at < bodies.sizes[body]; at++) {
                if (text.standsAt(thing, bodies, body, at)) {
                    world.changers[slot * BODY_ORDERS + at] = world.logCount;
                }
            }
        }
    }

    /** The woven code of all methods, and the tables by which members are found by name. */
    private static final class Code {
        int total;
        final int[] kinds = new int[WOVEN_ORDERS];
        final int[] numbers = new int[WOVEN_ORDERS];
        final int[] owners = new int[WOVEN_ORDERS];
        final long[] words = new long[WOVEN_ORDERS];
        // Of get, put, call, TURN the name's number, of new the class, of value and set the place on the method's pile.
        final int[] aims = new int[WOVEN_ORDERS];
        final int[] firsts = new int[SLOTS];
        final int[] sizes = new int[SLOTS];
        final int[] params = new int[SLOTS];
        final int[] variables = new int[SLOTS];
        int nameCount;
        final long[] names = new long[NAMES];
        // For each class and name the slot of the method, or the place of the field within an object; NONE without.
        final int[] methodTable = new int[CLASSES * NAMES];
        final int[] fieldTable = new int[CLASSES * NAMES];
        final int[] fieldTotals = new int[CLASSES];
        int mainSlot = NONE;
        final long[] mainWord = wordsOf(MAIN, 1);

        void append(int kind, int number, int owner, long word, int aim) {
            if (total < WOVEN_ORDERS) {
                kinds[total] = kind;
                numbers[total] = number;
                owners[total] = owner;
                words[total] = word;
                aims[total] = aim;
                total++;
            }
        }

        /** Numbers the members' names, makes the tables, and aims the orders that name something. */
        void link(World world) {
            nameCount = 0;
            for (int c = 0; c < world.classCount; c++) {
                addNames(world.fieldNames, c * MEMBERS, world.fieldCounts[c]);
                addNames(world.methodNames, c * MEMBERS, world.methodCounts[c]);
            }
            for (int c = 0; c < world.classCount; c++) {
                linkClass(world, c);
            }
            for (int i = 0; i < total; i++) {
                int kind = kinds[i];
                if (kind == NEW) {
                    aims[i] = world.classNamed(words[i]);
                } else if (kind == GET || kind == PUT || kind == CALL || kind == TURN) {
                    aims[i] = find(names, 0, nameCount, words[i]);
                }
            }
            int name = find(names, 0, nameCount, mainWord[0]);
            int slot = name == NONE ? NONE : methodTable[name];
            mainSlot = slot != NONE && params[slot] == 0 ? slot : NONE;
        }

        private void addNames(long[] from, int first, int size) {
            for (int i = first; i < first + size; i++) {
                if (nameCount < NAMES && find(names, 0, nameCount, from[i]) == NONE) {
                    names[nameCount] = from[i];
                    nameCount++;
                }
            }
        }

        private void linkClass(World world, int c) {
            int above = world.classAboves[c];
            int row = c * NAMES;
            if (above == NONE) {
                Arrays.fill(methodTable, row, row + nameCount, NONE);
                Arrays.fill(fieldTable, row, row + nameCount, NONE);
                fieldTotals[c] = 0;
            } else {
                System.arraycopy(methodTable, above * NAMES, methodTable, row, nameCount);
                System.arraycopy(fieldTable, above * NAMES, fieldTable, row, nameCount);
                fieldTotals[c] = fieldTotals[above];
            }
            for (int m = c * MEMBERS; m < c * MEMBERS + world.methodCounts[c]; m++) {
                int name = find(names, 0, nameCount, world.methodNames[m]);
                if (name != NONE) {
                    methodTable[row + name] = m;
                }
            }
            for (int f = c * MEMBERS; f < c * MEMBERS + world.fieldCounts[c]; f++) {
                int name = find(names, 0, nameCount, world.fieldNames[f]);
                if (name != NONE) {
                    fieldTable[row + name] = fieldTotals[c];
                }
                fieldTotals[c]++;
            }
        }

        /** The method of that name of a class or the nearest above, NONE when there is none. */
        int methodFor(int c, int name) {
            return name < 0 || name >= nameCount ? NONE : methodTable[c * NAMES + name];
        }

        int fieldFor(int c, int name) {
            return name < 0 || name >= nameCount ? NONE : fieldTable[c * NAMES + name];
        }
    }

    /** Makes the woven code out of the bodies and what was woven into them. */
    private static final class Coder {
        final World world;
        final Code code;
        // The rows of the log that are of the method that is made.
        final int[] mine = new int[LOG_SIZE];
        int mineCount;
        // Of each order of the body where it is gone to by a label, and where it stands itself.
        final int[] entries = new int[BODY_ORDERS];
        final int[] stands = new int[BODY_ORDERS];
        int slot;
        Bodies bodies;
        int body;
        int start;
        int nextVariable;

        Coder(World world, Code code) {
            this.world = world;
            this.code = code;
            bodies = world.gameText.bodies;
        }

        /** Finds the sizes of all woven methods: whether they are within the limits. */
        boolean fits() {
            for (int c = 0; c < world.classCount; c++) {
                for (int s = c * MEMBERS; s < c * MEMBERS + world.methodCounts[c]; s++) {
                    code.params[s] = world.paramsOf(s);
                    code.sizes[s] = world.bodiesOf(s).sizes[world.bodyNumbers[s]];
                    code.variables[s] = code.params[s] + world.bodyVariables(s);
                }
            }
            for (int row = 0; row < world.logCount * LOG_ROW; row += LOG_ROW) {
                int kind = world.log[row + LOG_KIND];
                if (kind >= HEAD && kind <= BEHIND) {
                    addSize(row);
                }
            }
            return sizesFit();
        }

        private void addSize(int row) {
            int s = world.log[row + LOG_SLOT];
            int thing = world.log[row + LOG_THING];
            Text text = world.textOf(world.log[row]);
            int woven = text.thingBodies[thing];
            int places = text.placesIn(thing, world.bodiesOf(s), world.bodyNumbers[s]);
            code.sizes[s] += places * text.bodies.sizes[woven];
            code.variables[s] += places * text.bodies.variables[woven];
        }

        private boolean sizesFit() {
            int sum = 0;
            for (int c = 0; c < world.classCount; c++) {
                for (int s = c * MEMBERS; s < c * MEMBERS + world.methodCounts[c]; s++) {
                    if (code.sizes[s] > METHOD_ORDERS || code.variables[s] > METHOD_VARIABLES) {
                        return false;
                    }
                    sum += code.sizes[s];
                }
            }
            return sum <= WOVEN_ORDERS;
        }

        void makeAll() {
            code.total = 0;
            for (int c = 0; c < world.classCount; c++) {
                for (int s = c * MEMBERS; s < c * MEMBERS + world.methodCounts[c]; s++) {
                    makeMethod(s);
                }
            }
            code.link(world);
        }

        private void makeMethod(int s) {
            slot = s;
            bodies = world.bodiesOf(s);
            body = world.bodyNumbers[s];
            start = code.total;
            code.firsts[s] = start;
            nextVariable = code.params[s] + bodies.variables[body];
            collectMine();
            for (int i = 0; i < mineCount; i++) {
                if (world.log[mine[i] + LOG_KIND] == HEAD) {
                    putWoven(mine[i], 0);
                }
            }
            int size = bodies.sizes[body];
            for (int at = 0; at < size; at++) {
                makeOrder(at);
            }
            for (int at = 0; at < size; at++) {
                int here = bodies.firsts[body] + at;
                if (bodies.orderKinds[here] == JUMP || bodies.orderKinds[here] == IF) {
                    code.numbers[start + stands[at]] = entries[bodies.orderNumbers[here]];
                }
            }
        }

        private void collectMine() {
            mineCount = 0;
            for (int row = 0; row < world.logCount * LOG_ROW; row += LOG_ROW) {
                if (world.log[row + LOG_SLOT] == slot) {
                    mine[mineCount] = row;
                    mineCount++;
                }
            }
        }

        private void makeOrder(int at) {
            int here = bodies.firsts[body] + at;
            int kind = bodies.orderKinds[here];
            entries[at] = code.total - start;
            if (kind == CALL || kind == RET) {
                int woven = kind == CALL ? AHEAD : TAIL;
                for (int i = 0; i < mineCount; i++) {
                    if (standsThere(mine[i], woven, at)) {
                        putWoven(mine[i], bodies.depths[here] - 1);
                    }
                }
            }
            stands[at] = code.total - start;
            putOrder(at, here);
            if (kind == CALL) {
                for (int i = mineCount - 1; i >= 0; i--) {
                    if (standsThere(mine[i], BEHIND, at)) {
                        putWoven(mine[i], 0);
                    }
                }
            }
        }

        private boolean standsThere(int row, int kind, int at) {
            return world.log[row + LOG_KIND] == kind
                    && world.textOf(world.log[row]).standsAt(world.log[row + LOG_THING], bodies, body, at);
        }

        private void putOrder(int at, int here) {
            int kind = bodies.orderKinds[here];
            int number = bodies.orderNumbers[here];
            long word = bodies.orderWords[here];
            int owner = world.bodyOwners[slot];
            if ((kind == LOAD || kind == STORE) && bodies.kinds[body] == OVER) {
                number += code.params[slot];
            }
            int changer = world.changers[slot * BODY_ORDERS + at];
            if (changer > 0) {
                int row = (changer - 1) * LOG_ROW;
                owner = world.log[row];
                long to = world.textOf(owner).thingTos[world.log[row + LOG_THING]];
                if (kind == PUSH) {
                    number = (int) to;
                } else {
                    kind = TURN;
                    word = to;
                }
            }
            code.append(kind, number, owner, word, 0);
        }

        private void putWoven(int row, int valuePlace) {
            int owner = world.log[row];
            Text text = world.textOf(owner);
            Bodies theirs = text.bodies;
            int woven = text.thingBodies[world.log[row + LOG_THING]];
            int base = code.total - start;
            int first = theirs.firsts[woven];
            for (int i = first; i < first + theirs.sizes[woven]; i++) {
                int kind = theirs.orderKinds[i];
                int number = theirs.orderNumbers[i];
                if (kind == LOAD || kind == STORE) {
                    number += nextVariable;
                } else if (kind == JUMP || kind == IF) {
                    number += base;
                }
                code.append(kind, number, owner, theirs.orderWords[i], kind == VALUE || kind == SET ? valuePlace : 0);
            }
            nextVariable += theirs.variables[woven];
        }
    }

    /** Runs the woven code. */
    private static final class Machine {
        final Code code;
        final Heap heap = new Heap();
        int condition = NOT_STARTED;
        int steps;
        final int[] stepsOf = new int[MOST_MODS];
        final long[] pile = new long[PILE_SIZE];
        int pileSize;
        final long[] variables = new long[MOST_VARIABLES];
        int variableCount;
        final int[] outputs = new int[MOST_OUTPUT];
        int outputCount;
        int given;
        // The calls that wait for others: slot, next order, part of the pile, variables, object.
        final int[] frames = new int[MOST_CALLS * FRAME];
        int calls;
        // The call that is under way.
        int slot = NONE;
        int at;
        int pileBase;
        int variableBase;
        int self;

        Machine(Code code) {
            this.code = code;
        }

        void clear() {
            condition = NOT_STARTED;
            steps = 0;
            Arrays.fill(stepsOf, 0);
            outputCount = 0;
            given = 0;
            heap.clear();
            leaveAll();
        }

        private void leaveAll() {
            pileSize = 0;
            variableCount = 0;
            calls = 0;
            slot = NONE;
            at = 0;
            pileBase = 0;
            variableBase = 0;
            self = 0;
        }

        void begin() {
            clear();
            self = heap.make(0, code.fieldTotals[0]);
            if (code.mainSlot == NONE) {
                condition = FAILED + METHOD_ERROR;
                return;
            }
            condition = GOES_ON;
            slot = code.mainSlot;
            calls = 1;
            variableCount = code.variables[slot];
            Arrays.fill(variables, 0, variableCount, 0);
        }

        int run(int most) {
            int before = steps;
            for (int i = 0; i < most && condition == GOES_ON && steps < MOST_STEPS && hasOrder(); i++) {
                step();
            }
            return steps - before;
        }

        private boolean hasOrder() {
            return slot >= 0 && slot < SLOTS && at >= 0 && at < code.sizes[slot];
        }

        private void step() {
            int here = code.firsts[slot] + at;
            int owner = code.owners[here];
            int kind = code.kinds[here];
            int error = kind <= SWAP ? move(kind, here) : kind <= SAME ? reckon(kind)
                    : kind <= OUT || kind == TURN ? lead(kind, here) : weaveOrder(kind, here);
            if (error != 0) {
                condition = FAILED + error;
                return;
            }
            steps++;
            if (owner >= 0 && owner < MOST_MODS) {
                stepsOf[owner]++;
            }
        }

        private void put(long value) {
            if (pileSize < PILE_SIZE) {
                pile[pileSize] = value;
                pileSize++;
            }
        }

        private long take() {
            if (pileSize == 0) {
                return 0;
            }
            pileSize--;
            return pile[pileSize];
        }

        /** The value with so many others above it; 0 when there is none. */
        private long peek(int others) {
            int place = pileSize - 1 - others;
            return place < 0 ? 0 : pile[place];
        }

        private long variable(int number) {
            int place = variableBase + number;
            return number < 0 || place >= variableCount ? 0 : variables[place];
        }

        private void setVariable(int number, long value) {
            int place = variableBase + number;
            if (number >= 0 && place < variableCount) {
                variables[place] = value;
            }
        }

        private static long objectValue(int number) {
            return OBJECT_BIT | number;
        }

        private static long intValue(int number) {
            return number & INT_MASK;
        }

        private static int objectError(long value) {
            return value == OBJECT_BIT ? NULL_ERROR : (value & OBJECT_BIT) == 0 ? KIND_ERROR : 0;
        }

        private int move(int kind, int here) {
            int number = code.numbers[here];
            switch (kind) {
                case PUSH:
                    put(intValue(number));
                    break;
                case NULL:
                    put(OBJECT_BIT);
                    break;
                case LOAD:
                    put(variable(number));
                    break;
                case STORE:
                    setVariable(number, take());
                    break;
                case GET:
                    return getField(here);
                case PUT:
                    return putField(here);
                case POP:
                    take();
                    break;
                case DUP:
                    put(peek(0));
                    break;
                default:
                    swap();
                    break;
            }
            at++;
            return 0;
        }

        private void swap() {
            long upper = take();
            long lower = take();
            put(upper);
            put(lower);
        }

        private int getField(int here) {
            long value = peek(0);
            int error = objectError(value);
            if (error != 0) {
                return error;
            }
            int field = code.fieldFor(heap.classOf((int) value), code.aims[here]);
            if (field == NONE) {
                return FIELD_ERROR;
            }
            take();
            put(heap.read((int) value, field));
            at++;
            return 0;
        }

        private int putField(int here) {
            long value = peek(1);
            int error = objectError(value);
            if (error != 0) {
                return error;
            }
            int field = code.fieldFor(heap.classOf((int) value), code.aims[here]);
            if (field == NONE) {
                return FIELD_ERROR;
            }
            heap.write((int) value, field, take());
            take();
            at++;
            return 0;
        }

        private int reckon(int kind) {
            long second = peek(0);
            long first = peek(1);
            if (kind != SAME && ((first | second) & OBJECT_BIT) != 0) {
                return KIND_ERROR;
            }
            if (kind == DIV && second == 0) {
                return ZERO_ERROR;
            }
            take();
            take();
            put(kind == SAME ? first == second ? 1 : 0 : intValue(result(kind, (int) first, (int) second)));
            at++;
            return 0;
        }

        private static int result(int kind, int first, int second) {
            switch (kind) {
                case ADD:
                    return first + second;
                case SUB:
                    return first - second;
                case MUL:
                    return first * second;
                case DIV:
                    return second == 0 ? 0 : first / second;
                case LESS:
                    return first < second ? 1 : 0;
                default:
                    return 0;
            }
        }

        private int lead(int kind, int here) {
            switch (kind) {
                case JUMP:
                    at = code.numbers[here];
                    return 0;
                case IF:
                    at = (int) take() != 0 ? code.numbers[here] : at + 1;
                    return 0;
                case NEW:
                    return makeObject(code.aims[here]);
                case CALL:
                    return callOther(here);
                case TURN:
                    return callTurned(here);
                case SELF:
                    put(objectValue(self));
                    break;
                case RET:
                    leave();
                    return 0;
                default:
                    putOut((int) take());
                    break;
            }
            at++;
            return 0;
        }

        private int makeObject(int c) {
            if (c == NONE) {
                return METHOD_ERROR;
            }
            int number = heap.make(c, code.fieldTotals[c]);
            if (number == 0) {
                return ROOM_ERROR;
            }
            put(objectValue(number));
            at++;
            return 0;
        }

        private void putOut(int number) {
            if (outputCount < MOST_OUTPUT) {
                outputs[outputCount] = number;
                outputCount++;
            }
        }

        private int callOther(int here) {
            int n = code.numbers[here];
            long called = peek(n);
            int error = objectError(called);
            if (error != 0) {
                return error;
            }
            int target = code.methodFor(heap.classOf((int) called), code.aims[here]);
            error = enterError(target, n);
            if (error == 0) {
                enter(target, n, (int) called, true);
            }
            return error;
        }

        private int callTurned(int here) {
            int n = code.numbers[here] + 1;
            int target = code.methodFor(heap.classOf(self), code.aims[here]);
            int error = enterError(target, n);
            if (error == 0) {
                enter(target, n, self, false);
            }
            return error;
        }

        private int enterError(int target, int n) {
            if (target == NONE || code.params[target] != n) {
                return METHOD_ERROR;
            }
            return calls >= MOST_CALLS || variableCount + code.variables[target] > MOST_VARIABLES ? DEEP_ERROR : 0;
        }

        /** Calls a method for an object with the n values on top, and takes the object below them if that was called. */
        private void enter(int target, int n, int called, boolean takesObject) {
            int frame = (calls - 1) * FRAME;
            frames[frame] = slot;
            frames[frame + 1] = at + 1;
            frames[frame + 2] = pileBase;
            frames[frame + 3] = variableBase;
            frames[frame + 4] = self;
            calls++;
            variableBase = variableCount;
            variableCount += code.variables[target];
            Arrays.fill(variables, variableBase, variableCount, 0);
            for (int i = n - 1; i >= 0; i--) {
                setVariable(i, take());
            }
            if (takesObject) {
                take();
            }
            pileBase = pileSize;
            slot = target;
            at = 0;
            self = called;
        }

        private void leave() {
            long value = take();
            calls--;
            if (calls == 0) {
                leaveAll();
                given = (int) value;
                condition = DONE;
                return;
            }
            pileSize = pileBase;
            variableCount = variableBase;
            int frame = (calls - 1) * FRAME;
            slot = frames[frame];
            at = frames[frame + 1];
            pileBase = frames[frame + 2];
            variableBase = frames[frame + 3];
            self = frames[frame + 4];
            put(value);
        }

        private int weaveOrder(int kind, int here) {
            int number = code.numbers[here];
            int place = pileBase + code.aims[here];
            if (kind == CANCEL) {
                leave();
                return 0;
            }
            if ((kind == ARG || kind == GIVE) && number >= code.params[slot]) {
                return ARG_ERROR;
            }
            if (kind == ARG) {
                put(variable(number));
            } else if (kind == GIVE) {
                setVariable(number, take());
            } else if (place >= 0 && place < pileSize) {
                if (kind == VALUE) {
                    put(pile[place]);
                } else {
                    pile[place] = take();
                }
            }
            at++;
            return 0;
        }

        int tell(int what) {
            switch (what) {
                case 0:
                    return condition;
                case 1:
                    return steps;
                case 2:
                    return calls;
                case 3:
                    return pileSize;
                case 4:
                    return heap.size;
                case 5:
                    return outputCount;
                case 6:
                    return slot == NONE ? NONE : slot / MEMBERS;
                case 7:
                    return slot == NONE ? NONE : slot % MEMBERS;
                case 8:
                    return slot == NONE ? NONE : at;
                case 9:
                    return hasOrder() ? code.owners[code.firsts[slot] + at] : NONE;
                case 10:
                    return given;
                default:
                    return variableCount;
            }
        }
    }

    /** The objects that the machine made, numbered from 1 on. */
    private static final class Heap {
        int size;
        final int[] classes = new int[MOST_OBJECTS + 1];
        final int[] firsts = new int[MOST_OBJECTS + 2];
        long[] cells = new long[CELLS_AT_FIRST];

        void clear() {
            size = 0;
        }

        /** The number of a new object, 0 when there is no room. */
        int make(int c, int fields) {
            if (size >= MOST_OBJECTS) {
                return 0;
            }
            size++;
            int end = firsts[size] + fields;
            if (end > cells.length) {
                cells = Arrays.copyOf(cells, Math.max(end, 2 * cells.length));
            }
            Arrays.fill(cells, firsts[size], end, 0);
            classes[size] = c;
            firsts[size + 1] = end;
            return size;
        }

        int classOf(int o) {
            return o < 1 || o > size ? 0 : classes[o];
        }

        private boolean has(int o, int field) {
            return o >= 1 && o <= size && field >= 0 && field < firsts[o + 1] - firsts[o];
        }

        long read(int o, int field) {
            return has(o, field) ? cells[firsts[o] + field] : 0;
        }

        void write(int o, int field, long value) {
            if (has(o, field)) {
                cells[firsts[o] + field] = value;
            }
        }

        int look(int o, int what) {
            return what == 0 ? classOf(o) : what > 0 ? (int) read(o, what - 1) : 0;
        }
    }
}
