/**
 * A meadow whose mown signs a deaf mountain reads and obeys, as ../shared/DOC.md tells it.
 *
 * All rows are made in the constructor and used again: no call makes an object.
 */
public final class MeadowSigns {
    public static final int NONE = -1;

    private static final int NO_SUCH = -10000;
    private static final int REFUSED = -2;

    private static final int TAPE_BYTES = 1600;
    private static final int LEAST_SIZE = 4;
    private static final int MAX_CELLS = 20;
    private static final int SIZE_UNTOLD = 12;
    private static final int MAX_THINGS = 4;
    private static final int MAX_SIGNS = 8;
    private static final int MAX_LETTERS = 6;
    private static final int MAX_NEVERS = 10;
    private static final int MAX_BARNS = 4;
    private static final int MAX_VALUE = 9;
    private static final int MAX_START = 99;
    private static final int MAX_SEED = 999;
    private static final int MAX_UNITS = 60;
    private static final int MAX_UNITS_OF_ONE = 30;
    private static final int MAX_WITHIN = 6;
    private static final int MAX_CODE = 300;
    private static final int INPUTS = 6;

    private static final int MAX_AMOUNT = 999;
    private static final int MAX_WEIGHT = 99;
    private static final int MAX_YEAR = 999;
    private static final int MAX_AHEAD = 60;
    private static final int MAX_READINGS = 1000000;
    private static final int MAX_ACTS = 40;
    private static final int BOXES = 3;
    private static final int STATE_WIDTH = 3 + MAX_THINGS + MAX_CELLS;

    private static final int MAX_CHANGES = 3;
    private static final int MAX_TURN = 99;
    private static final int MAX_ORDERED = 8;
    private static final int MAX_WRITTEN = 3;

    private static final int MAX_HEARD = 30;
    private static final int HEARD_SIGNS = 4;
    private static final int MAX_PAIRS = HEARD_SIGNS * HEARD_SIGNS;
    private static final int MAX_LATER = 1000;
    private static final int MAX_TIME = 100000;

    /** Stands where a sign ahead is asked for, and there is none. */
    private static final int FIRST = MAX_SIGNS;

    // Kinds of tokens. A sign such as ; is its own byte, so the words stay below 37.
    private static final int END = 0;
    private static final int NO_TOKEN = 1;
    private static final int NAME = 2;
    private static final int NUMBER = 3;
    private static final int SIZE = 4;
    private static final int THING = 5;
    private static final int SIGN = 6;
    private static final int NEVER = 7;
    private static final int BARN = 8;
    private static final int WEIGH = 9;
    private static final int GROW = 10;
    private static final int DRAW = 11;
    private static final int AT = 12;
    private static final int DOES = 13;
    private static final int OR = 14;
    private static final int AND = 15;
    private static final int NOT = 16;
    private static final int LONG = 17;
    private static final int PLACE = 18;
    private static final int YEAR = 19;
    private static final int MUCH = 20;
    private static final int AGE = 21;
    private static final int DRY = 22;
    /** In the order of the kinds from SIZE on, a blank behind each. */
    private static final String WORDS =
        "size thing sign never barn weigh grow draw at does or and not long place year much age dry ";
    private static final String MARKS = ";()<>=+-*/%";
    private static final int WORD_LETTERS = 8;
    private static final int NUMBER_DIGITS = 4;

    private static final int FAULT_TOKEN = 1;
    private static final int FAULT_STAND = 2;
    private static final int FAULT_AGAIN = 3;
    private static final int FAULT_VALUE = 4;
    private static final int FAULT_UNKNOWN = 5;

    // How tightly parts of a formula hold together, from the loosest on.
    private static final int LEVEL_E = 0;
    private static final int LEVEL_BOTH = 1;
    private static final int LEVEL_ONE = 2;
    private static final int LEVEL_SUM = 3;
    private static final int LEVEL_TERM = 4;
    private static final int LEVEL_UNIT = 5;

    private Told told = new Told();
    private Told spare = new Told();
    private final Parser parser = new Parser(spare);
    private final State state = new State();
    private final State ahead = new State();
    private final History history = new History();
    private final Reader reader = new Reader(told);
    private final Planner planner = new Planner(told);
    private final Hearsay hearsay = new Hearsay();

    public MeadowSigns() {
        state.begin(told);
        history.forget(state);
    }

    // ---- the text ----

    public int feed(int a, int b, int c, int d, int e) {
        Tape tape = parser.tape;
        if (!tape.hasRoom(20)) {
            return NONE;
        }
        tape.putFour(a);
        tape.putFour(b);
        tape.putFour(c);
        tape.putFour(d);
        tape.putFour(e);
        return tape.length;
    }

    public int end(int n) {
        return parser.tape.cutTo(n) ? n : NONE;
    }

    public int meadow() {
        if (!parser.parse(spare)) {
            return NONE;
        }
        Told before = told;
        told = spare;
        spare = before;
        parser.tape.cutTo(0);
        state.begin(told);
        history.forget(state);
        history.emptyBoxes();
        planner.clear();
        hearsay.begin(told.signs);
        return told.signs;
    }

    public int fault(int what) {
        switch (what) {
            case 0:
                return parser.fault;
            case 1:
                return parser.place;
            default:
                return NONE;
        }
    }

    // ---- what there is ----

    public int thing(int thing) {
        return isThing(thing) ? state.amounts[thing] : NO_SUCH;
    }

    public int glyph(int sign, int what) {
        if (!isSign(sign)) {
            return NO_SUCH;
        }
        switch (what) {
            case 0:
                return told.shapes[sign];
            case 1:
                return told.letters[sign];
            case 2:
                return told.signThings[sign];
            case 3:
                return told.values[sign];
            case 4:
                return takeNow() ? reader.cellsOf(sign) : 0;
            default:
                return NO_SUCH;
        }
    }

    public int plot(int cell, int what) {
        if (!isCell(cell)) {
            return REFUSED;
        }
        boolean mown = isIn(state.mown, cell);
        switch (what) {
            case 0:
                return mown ? 1 : 0;
            case 1:
                return mown ? state.ages[cell] : NONE;
            case 2:
                return isIn(told.barns, cell) ? 1 : 0;
            case 3:
                return takeNow() ? reader.signAt(cell) : NONE;
            default:
                return REFUSED;
        }
    }

    // ---- acts ----

    public int mow(int cell) {
        if (!isCell(cell)) {
            return NONE;
        }
        state.cut(cell);
        history.keep(state);
        return Integer.bitCount(state.mown);
    }

    public int sow(int cell) {
        if (!isCell(cell) || !isIn(state.mown, cell)) {
            return NONE;
        }
        state.mown &= ~(1 << cell);
        history.keep(state);
        return Integer.bitCount(state.mown);
    }

    public int year() {
        if (state.year >= MAX_YEAR) {
            return REFUSED;
        }
        int read = passYear(state);
        history.keep(state);
        return read;
    }

    public boolean undo() {
        return history.stepBack(state);
    }

    public boolean redo() {
        return history.stepOn(state);
    }

    // ---- readings ----

    public int readings() {
        return readAll(state);
    }

    public int taken() {
        planner.clear();
        if (!takeNow()) {
            return NONE;
        }
        for (int i = 0; i < reader.taken; i++) {
            planner.lay(10 * reader.cells[i] + reader.signs[i]);
        }
        return reader.taken;
    }

    public int weight() {
        return readAll(state) > 0 ? reader.greatest() : NO_SUCH;
    }

    public int does(int thing) {
        if (!isThing(thing)) {
            return NO_SUCH;
        }
        return takeNow() ? reader.gainOf(thing) : 0;
    }

    public int will(int thing, int n) {
        if (!isThing(thing) || !goAhead(n)) {
            return NO_SUCH;
        }
        return ahead.amounts[thing];
    }

    public int field(int n) {
        return goAhead(n) ? ahead.mown : NONE;
    }

    // ---- plans ----

    public int harm() {
        return takeNow() && reader.takesAway() ? 1 : 0;
    }

    public int turn(int thing, int v) {
        planner.clear();
        if (!isThing(thing) || v < -MAX_TURN || v > MAX_TURN) {
            return NONE;
        }
        planner.begin(told, state);
        planner.wishForGain(thing, v);
        return planner.fewestChanges();
    }

    public int plain() {
        planner.clear();
        planner.begin(told, state);
        return planner.wishForOneReading() ? planner.fewestChanges() : NONE;
    }

    public int orders(int set) {
        planner.clear();
        if (!isOpen(set) || Integer.bitCount(set) > MAX_ORDERED) {
            return NONE;
        }
        planner.begin(told, state);
        return planner.countOrders(set);
    }

    public int write(int a, int b, int c) {
        planner.clear();
        boolean two = b != NONE;
        boolean three = c != NONE;
        if (!isSign(a) || two && !isSign(b) || three && !(two && isSign(c))) {
            return NONE;
        }
        planner.begin(told, state);
        return planner.placeFor(a, b, c);
    }

    public int watch() {
        planner.begin(told, state);
        return planner.harmfulCells();
    }

    public int cows(int thing, int part) {
        if (!isThing(thing) || part < 0 || part > 1) {
            return NONE;
        }
        planner.begin(told, state);
        return part == 0 ? planner.losingCells(thing) : Integer.bitCount(openCells());
    }

    public int duel(int thing, int mine, int his, int what) {
        boolean sets = isOpen(mine) && isOpen(his) && mine != 0 && his != 0 && (mine & his) == 0;
        if (!isThing(thing) || !sets || what < 0 || what > 2) {
            return NO_SUCH;
        }
        planner.begin(told, state);
        return planner.fight(thing, mine, his, what);
    }

    public int lies(int i) {
        return planner.lyingAt(i);
    }

    // ---- what was heard ----

    public int heard(int a, int b, int c, boolean is) {
        return hearsay.hear(a, b, c, is);
    }

    public boolean untell(int heard) {
        return hearsay.takeBack(heard);
    }

    public int later(int by) {
        return hearsay.goOn(by);
    }

    public int fit(int k) {
        return hearsay.grammars(k, 0);
    }

    public int sure(int a, int b, int k) {
        return hearsay.certainty(a, b, k);
    }

    public int ask(int what, int k) {
        return hearsay.question(what, k);
    }

    // ---- images ----

    public int image(int box) {
        return history.fillBox(state, box) ? state.year : NONE;
    }

    public int back(int box) {
        if (!history.takeBox(state, box)) {
            return NONE;
        }
        history.forget(state);
        return state.year;
    }

    public int about(int what) {
        switch (what) {
            case 0:
                return told.signs;
            case 1:
                return told.things;
            case 2:
                return told.size;
            case 3:
                return state.mown;
            case 4:
                return told.barns;
            case 5:
                return told.nevers;
            case 6:
                return state.year;
            case 7:
                return state.seed;
            case 8:
                return history.done;
            case 9:
                return history.undone;
            case 10:
                return hearsay.count;
            case 11:
                return hearsay.time;
            case 12:
                return parser.tape.length;
            case 13:
                return told.units;
            case 14:
                return planner.lying;
            default:
                return NONE;
        }
    }

    // ---- help for the calls ----

    private static boolean isIn(int set, int member) {
        return ((set >>> member) & 1) != 0;
    }

    private static int within(int value, int limit) {
        return Math.max(-limit, Math.min(limit, value));
    }

    private boolean isThing(int thing) {
        return thing >= 0 && thing < told.things;
    }

    private boolean isSign(int sign) {
        return sign >= 0 && sign < told.signs;
    }

    private boolean isCell(int cell) {
        return cell >= 0 && cell < told.size;
    }

    private int openCells() {
        return ((1 << told.size) - 1) & ~state.mown & ~told.barns;
    }

    private boolean isOpen(int set) {
        return (set & ~openCells()) == 0;
    }

    /** Answers how many readings there are in this state. */
    private int readAll(State now) {
        int row = now.mown | told.barns;
        reader.begin(told, now, row);
        return reader.read(row);
    }

    private boolean takeNow() {
        return readAll(state) > 0 && reader.follow();
    }

    /** Answers how many signs were read, or NONE. */
    private int passYear(State passing) {
        int read = NONE;
        if (readAll(passing) > 0 && reader.follow()) {
            read = reader.taken;
            for (int i = 0; i < read; i++) {
                int sign = reader.signs[i];
                passing.add(told.signThings[sign], told.values[sign]);
            }
        }
        passing.turnYear(told);
        return read;
    }

    private boolean goAhead(int n) {
        if (n < 0 || n > MAX_AHEAD) {
            return false;
        }
        ahead.copy(state);
        for (int i = 0; i < n && ahead.year < MAX_YEAR; i++) {
            passYear(ahead);
        }
        return true;
    }

    /** A formula as a row of items, operands ahead of what joins them. */
    private static final class Formula {
        private final int[] code = new int[MAX_CODE];
        private final int[] stack = new int[MAX_UNITS_OF_ONE + 1];
        private final int untold;
        private int length = 0;

        Formula(int untold) {
            this.untold = untold;
        }

        void clear() {
            length = 0;
        }

        boolean isTold() {
            return length > 0;
        }

        void addNumber(int number) {
            add(number);
        }

        /** Kinds are kept below 0, so that they are not taken for numbers. */
        void addKind(int kind) {
            add(-kind);
        }

        private void add(int item) {
            if (length < MAX_CODE) {
                code[length] = item;
                length++;
            }
        }

        /** The inputs stand in the order of their words, from LONG on. */
        int valueBy(int[] inputs) {
            if (length == 0) {
                return untold;
            }
            int top = 0;
            for (int i = 0; i < length; i++) {
                int item = code[i];
                int input = -item - LONG;
                if (item >= 0 || input >= 0 && input < inputs.length) {
                    if (top < stack.length) {
                        stack[top] = item >= 0 ? item : inputs[input];
                        top++;
                    }
                } else if (item == -NOT && top > 0) {
                    stack[top - 1] = stack[top - 1] == 0 ? 1 : 0;
                } else if (top > 1) {
                    top--;
                    stack[top - 1] = join(-item, stack[top - 1], stack[top]);
                }
            }
            return top > 0 ? stack[top - 1] : 0;
        }

        private static int join(int kind, int left, int right) {
            switch (kind) {
                case OR:
                    return left != 0 || right != 0 ? 1 : 0;
                case AND:
                    return left != 0 && right != 0 ? 1 : 0;
                case '<':
                    return left < right ? 1 : 0;
                case '>':
                    return left > right ? 1 : 0;
                case '=':
                    return left == right ? 1 : 0;
                case '+':
                    return left + right;
                case '-':
                    return left - right;
                case '*':
                    return left * right;
                case '/':
                    return right == 0 ? 0 : left / right;
                case '%':
                    return right == 0 ? 0 : left % right;
                default:
                    return 0;
            }
        }
    }

    /** What a text tells. */
    private static final class Told {
        private int size = SIZE_UNTOLD;
        private int things = 0;
        private final long[] thingNames = new long[MAX_THINGS];
        private final int[] starts = new int[MAX_THINGS];
        private int signs = 0;
        private final long[] signNames = new long[MAX_SIGNS];
        private final int[] shapes = new int[MAX_SIGNS];
        private final int[] letters = new int[MAX_SIGNS];
        private final int[] signThings = new int[MAX_SIGNS];
        private final int[] values = new int[MAX_SIGNS];
        private int nevers = 0;
        /** Of each sign, as bits: those that never come behind it, and those it never comes behind. */
        private final int[] neverBehind = new int[MAX_SIGNS];
        private final int[] neverAhead = new int[MAX_SIGNS];
        private int barns = 0;
        private int draw = 0;
        private int units = 0;
        private final Formula weigh = new Formula(1);
        private final Formula grow = new Formula(0);

        void clear() {
            size = SIZE_UNTOLD;
            things = 0;
            signs = 0;
            nevers = 0;
            barns = 0;
            draw = 0;
            units = 0;
            weigh.clear();
            grow.clear();
            for (int sign = 0; sign < MAX_SIGNS; sign++) {
                neverBehind[sign] = 0;
                neverAhead[sign] = 0;
            }
        }

        void addThing(long name, int start) {
            if (things < MAX_THINGS) {
                thingNames[things] = name;
                starts[things] = start;
                things++;
            }
        }

        void addSign(long name, int letterCount, int shape, int thing, int value) {
            if (signs < MAX_SIGNS) {
                signNames[signs] = name;
                letters[signs] = letterCount;
                shapes[signs] = shape;
                signThings[signs] = thing;
                values[signs] = value;
                signs++;
            }
        }

        void addNever(int first, int second) {
            neverBehind[first] |= 1 << second;
            neverAhead[second] |= 1 << first;
            nevers++;
        }

        boolean fits(int sign, int cell, int look) {
            int count = letters[sign];
            return cell + count <= size && ((look >>> cell) & ((1 << count) - 1)) == shapes[sign];
        }

        int mownLetters(int sign) {
            return Integer.bitCount(shapes[sign]);
        }
    }

    /** The bytes that were fed, parted into tokens one at a time. */
    private static final class Tape {
        private final byte[] bytes = new byte[TAPE_BYTES];
        private int length = 0;
        private int next = 0;
        private int kind = END;
        private int place = 0;
        private int number = 0;
        /** A word's letters, five bits each: no two words are alike in it. */
        private long word = 0;
        private int wordLength = 0;

        boolean hasRoom(int more) {
            return length + more <= TAPE_BYTES;
        }

        void putFour(int four) {
            for (int shift = 24; shift >= 0 && length < TAPE_BYTES; shift -= 8) {
                bytes[length] = (byte) (four >>> shift);
                length++;
            }
        }

        boolean cutTo(int count) {
            if (count < 0 || count > length) {
                return false;
            }
            length = count;
            return true;
        }

        void begin() {
            next = 0;
            advance();
        }

        void advance() {
            while (next < length && (bytes[next] == ' ' || bytes[next] == '\n')) {
                next++;
            }
            place = next;
            wordLength = 0;
            if (next >= length) {
                kind = END;
            } else if (isLetterAt(next)) {
                readWord();
                kind = wordLength > WORD_LETTERS ? NO_TOKEN : kindOfWord();
            } else if (isDigitAt(next)) {
                readNumber();
                kind = next - place > NUMBER_DIGITS || isLetterAt(next) ? NO_TOKEN : NUMBER;
            } else {
                readMark();
            }
        }

        private boolean isLetterAt(int at) {
            return at < length && bytes[at] >= 'a' && bytes[at] <= 'z';
        }

        private boolean isDigitAt(int at) {
            return at < length && bytes[at] >= '0' && bytes[at] <= '9';
        }

        private void readWord() {
            word = 0;
            while (next < length && bytes[next] >= 'a' && bytes[next] <= 'z') {
                word = word * 32 + (bytes[next] - 'a' + 1);
                next++;
            }
            wordLength = next - place;
        }

        private int kindOfWord() {
            long candidate = 0;
            int candidateKind = SIZE;
            for (int i = 0; i < WORDS.length(); i++) {
                int letter = WORDS.charAt(i);
                if (letter != ' ') {
                    candidate = candidate * 32 + (letter - 'a' + 1);
                } else if (candidate == word) {
                    return candidateKind;
                } else {
                    candidate = 0;
                    candidateKind++;
                }
            }
            return NAME;
        }

        private void readNumber() {
            number = 0;
            while (next < length && bytes[next] >= '0' && bytes[next] <= '9') {
                number = number * 10 + (bytes[next] - '0');
                next++;
            }
        }

        private void readMark() {
            kind = NO_TOKEN;
            for (int i = 0; i < MARKS.length(); i++) {
                if (MARKS.charAt(i) == bytes[next]) {
                    kind = bytes[next];
                }
            }
            next++;
        }

        boolean isWord() {
            return kind == NAME || kind >= SIZE && kind <= DRY;
        }

        /** The word as a shape's bits; 0 if it is no shape. */
        int shapeBits() {
            if (wordLength == 0 || wordLength > MAX_LETTERS) {
                return 0;
            }
            int bits = 0;
            for (int i = 0; i < wordLength && place + i < length; i++) {
                if (bytes[place + i] == 'm') {
                    bits |= 1 << i;
                } else if (bytes[place + i] != 'o') {
                    return 0;
                }
            }
            return isIn(bits, 0) && isIn(bits, wordLength - 1) ? bits : 0;
        }
    }

    /** Reads a text into what it tells; stops at the first fault. */
    private static final class Parser {
        private final Tape tape = new Tape();
        private Told target;
        private int lines = 0;
        private boolean drawTold = false;
        private int unitsOfOne = 0;
        private int value = 0;
        private int fault = 0;
        private int place = NONE;

        Parser(Told into) {
            target = into;
        }

        boolean parse(Told into) {
            target = into;
            target.clear();
            drawTold = false;
            fault = 0;
            place = NONE;
            tape.begin();
            boolean good = true;
            for (lines = 0; good && lines < TAPE_BYTES && tape.kind != END; lines++) {
                switch (tape.kind) {
                    case SIZE:
                        good = parseSize();
                        break;
                    case THING:
                        good = parseThing();
                        break;
                    case SIGN:
                        good = parseSign();
                        break;
                    case NEVER:
                        good = parseNever();
                        break;
                    case BARN:
                        good = parseBarn();
                        break;
                    case WEIGH:
                        good = parseFormula(target.weigh);
                        break;
                    case GROW:
                        good = parseFormula(target.grow);
                        break;
                    case DRAW:
                        good = parseDraw();
                        break;
                    default:
                        good = refuse(FAULT_STAND);
                        break;
                }
            }
            return good;
        }

        /** A fault at the present token; where there is no token, that is the least fault. */
        private boolean refuse(int kind) {
            return refuseAt(tape.kind == NO_TOKEN ? FAULT_TOKEN : kind, tape.place);
        }

        private boolean refuseAt(int kind, int where) {
            fault = kind;
            place = where;
            return false;
        }

        private boolean expect(int kind) {
            if (tape.kind != kind) {
                return refuse(FAULT_STAND);
            }
            tape.advance();
            return true;
        }

        /** A number's range is looked at, but the number is not yet passed. */
        private boolean isNumber(int least, int most) {
            if (tape.kind != NUMBER) {
                return refuse(FAULT_STAND);
            }
            return tape.number >= least && tape.number <= most || refuse(FAULT_VALUE);
        }

        private boolean passNumber(int least, int most) {
            if (!isNumber(least, most)) {
                return false;
            }
            value = tape.number;
            tape.advance();
            return true;
        }

        private static int indexOf(long name, long[] names, int count) {
            for (int i = 0; i < count && i < names.length; i++) {
                if (names[i] == name) {
                    return i;
                }
            }
            return NONE;
        }

        private boolean isNewName(long[] names, int count) {
            if (tape.kind != NAME) {
                return refuse(FAULT_STAND);
            }
            return indexOf(tape.word, names, count) == NONE || refuse(FAULT_AGAIN);
        }

        private boolean isKnownName(long[] names, int count) {
            if (tape.kind != NAME) {
                return refuse(FAULT_STAND);
            }
            return indexOf(tape.word, names, count) != NONE || refuse(FAULT_UNKNOWN);
        }

        private boolean parseSize() {
            if (lines > 0) {
                return refuse(FAULT_STAND);
            }
            tape.advance();
            if (!passNumber(LEAST_SIZE, MAX_CELLS)) {
                return false;
            }
            target.size = value;
            return expect(';');
        }

        private boolean parseThing() {
            if (target.things >= MAX_THINGS) {
                return refuse(FAULT_STAND);
            }
            tape.advance();
            if (!isNewName(target.thingNames, target.things)) {
                return false;
            }
            long name = tape.word;
            tape.advance();
            if (!expect(AT) || !passNumber(0, MAX_START)) {
                return false;
            }
            target.addThing(name, value);
            return expect(';');
        }

        private boolean parseSign() {
            if (target.signs >= MAX_SIGNS) {
                return refuse(FAULT_STAND);
            }
            tape.advance();
            if (!isNewName(target.signNames, target.signs)) {
                return false;
            }
            long name = tape.word;
            tape.advance();
            int letters = tape.wordLength;
            int shape = tape.shapeBits();
            if (shape == 0) {
                return refuse(tape.isWord() ? FAULT_VALUE : FAULT_STAND);
            }
            tape.advance();
            if (!expect(DOES) || !isKnownName(target.thingNames, target.things)) {
                return false;
            }
            int thing = indexOf(tape.word, target.thingNames, target.things);
            tape.advance();
            if (!passValue()) {
                return false;
            }
            target.addSign(name, letters, shape, thing, value);
            return expect(';');
        }

        private boolean passValue() {
            int where = tape.place;
            boolean minus = tape.kind == '-';
            if (minus) {
                tape.advance();
            }
            if (tape.kind != NUMBER) {
                return refuse(FAULT_STAND);
            }
            if (tape.number > MAX_VALUE) {
                return refuseAt(FAULT_VALUE, where);
            }
            value = minus ? -tape.number : tape.number;
            tape.advance();
            return true;
        }

        private boolean parseNever() {
            if (target.nevers >= MAX_NEVERS) {
                return refuse(FAULT_STAND);
            }
            tape.advance();
            if (!isKnownName(target.signNames, target.signs)) {
                return false;
            }
            int first = indexOf(tape.word, target.signNames, target.signs);
            tape.advance();
            if (!isKnownName(target.signNames, target.signs)) {
                return false;
            }
            int second = indexOf(tape.word, target.signNames, target.signs);
            if (isIn(target.neverBehind[first], second)) {
                return refuse(FAULT_AGAIN);
            }
            tape.advance();
            target.addNever(first, second);
            return expect(';');
        }

        private boolean parseBarn() {
            if (Integer.bitCount(target.barns) >= MAX_BARNS) {
                return refuse(FAULT_STAND);
            }
            tape.advance();
            if (!isNumber(0, target.size - 1)) {
                return false;
            }
            if (isIn(target.barns, tape.number)) {
                return refuse(FAULT_AGAIN);
            }
            target.barns |= 1 << tape.number;
            tape.advance();
            return expect(';');
        }

        private boolean parseDraw() {
            if (drawTold) {
                return refuse(FAULT_STAND);
            }
            drawTold = true;
            tape.advance();
            if (!passNumber(0, MAX_SEED)) {
                return false;
            }
            target.draw = value;
            return expect(';');
        }

        private boolean parseFormula(Formula formula) {
            if (formula.isTold()) {
                return refuse(FAULT_STAND);
            }
            tape.advance();
            unitsOfOne = 0;
            return parseLevel(formula, LEVEL_E, 0) && expect(';');
        }

        /** A part of a formula that holds together as the level tells, and is within depth others. */
        private boolean parseLevel(Formula formula, int level, int depth) {
            if (level >= LEVEL_UNIT) {
                return parseUnit(formula, depth);
            }
            if (level == LEVEL_ONE && tape.kind == NOT) {
                return parseNot(formula, depth);
            }
            if (!parseLevel(formula, level + 1, depth)) {
                return false;
            }
            int most = level == LEVEL_ONE ? 1 : MAX_UNITS_OF_ONE;
            for (int i = 0; i < most && levelOf(tape.kind) == level; i++) {
                int kind = tape.kind;
                tape.advance();
                if (!parseLevel(formula, level + 1, depth)) {
                    return false;
                }
                formula.addKind(kind);
            }
            return true;
        }

        private static int levelOf(int kind) {
            switch (kind) {
                case OR:
                    return LEVEL_E;
                case AND:
                    return LEVEL_BOTH;
                case '<':
                case '>':
                case '=':
                    return LEVEL_ONE;
                case '+':
                case '-':
                    return LEVEL_SUM;
                case '*':
                case '/':
                case '%':
                    return LEVEL_TERM;
                default:
                    return NONE;
            }
        }

        private boolean parseNot(Formula formula, int depth) {
            if (depth > MAX_WITHIN) {
                return refuse(FAULT_STAND);
            }
            tape.advance();
            if (!parseLevel(formula, LEVEL_ONE, depth + 1)) {
                return false;
            }
            formula.addKind(NOT);
            return true;
        }

        private boolean parseUnit(Formula formula, int depth) {
            int kind = tape.kind;
            boolean input = kind >= LONG && kind <= DRY;
            boolean inner = kind == '(' && depth <= MAX_WITHIN;
            boolean room = unitsOfOne < MAX_UNITS_OF_ONE && target.units < MAX_UNITS;
            if (!room || !(input || inner || kind == NUMBER)) {
                return refuse(FAULT_STAND);
            }
            unitsOfOne++;
            target.units++;
            if (input) {
                formula.addKind(kind);
            } else if (kind == NUMBER) {
                formula.addNumber(tape.number);
            }
            tape.advance();
            return !inner || parseLevel(formula, LEVEL_E, depth + 1) && expect(')');
        }
    }

    /** The meadow at one moment. */
    private static final class State {
        private int mown = 0;
        private int year = 0;
        private int seed = 0;
        private final int[] amounts = new int[MAX_THINGS];
        private final int[] ages = new int[MAX_CELLS];
        private final int[] inputs = new int[INPUTS];

        void begin(Told told) {
            mown = 0;
            year = 0;
            seed = told.draw;
            for (int thing = 0; thing < MAX_THINGS; thing++) {
                amounts[thing] = told.starts[thing];
            }
        }

        void copy(State other) {
            mown = other.mown;
            year = other.year;
            seed = other.seed;
            System.arraycopy(other.amounts, 0, amounts, 0, MAX_THINGS);
            System.arraycopy(other.ages, 0, ages, 0, MAX_CELLS);
        }

        void saveTo(int[] store, int slot) {
            int at = slot * STATE_WIDTH;
            if (at < 0 || at + STATE_WIDTH > store.length) {
                return;
            }
            store[at] = mown;
            store[at + 1] = year;
            store[at + 2] = seed;
            System.arraycopy(amounts, 0, store, at + 3, MAX_THINGS);
            System.arraycopy(ages, 0, store, at + 3 + MAX_THINGS, MAX_CELLS);
        }

        void loadFrom(int[] store, int slot) {
            int at = slot * STATE_WIDTH;
            if (at < 0 || at + STATE_WIDTH > store.length) {
                return;
            }
            mown = store[at];
            year = store[at + 1];
            seed = store[at + 2];
            System.arraycopy(store, at + 3, amounts, 0, MAX_THINGS);
            System.arraycopy(store, at + 3 + MAX_THINGS, ages, 0, MAX_CELLS);
        }

        void cut(int cell) {
            if (cell >= 0 && cell < MAX_CELLS) {
                mown |= 1 << cell;
                ages[cell] = 0;
            }
        }

        void add(int thing, int value) {
            if (thing >= 0 && thing < MAX_THINGS) {
                amounts[thing] = within(amounts[thing] + value, MAX_AMOUNT);
            }
        }

        /** What a year brings behind what was read. */
        void turnYear(Told told) {
            year++;
            seed = (seed * 137 + 71) % 1000;
            if (seed / 10 % 2 == 0 && told.size > 0) {
                cut(seed % told.size);
            }
            inputs[YEAR - LONG] = year;
            inputs[DRY - LONG] = seed / 100;
            for (int cell = 0; cell < told.size; cell++) {
                if (isIn(mown, cell)) {
                    ages[cell]++;
                    inputs[AGE - LONG] = ages[cell];
                    inputs[PLACE - LONG] = cell;
                    if (told.grow.valueBy(inputs) != 0) {
                        mown &= ~(1 << cell);
                    }
                }
            }
        }
    }

    /** States that can be gone back to: those around the acts that are kept, and those in boxes. */
    private static final class History {
        private static final int SLOTS = MAX_ACTS + 1;
        private final int[] acts = new int[SLOTS * STATE_WIDTH];
        private final int[] boxes = new int[BOXES * STATE_WIDTH];
        private int filled = 0;
        private int oldest = 0;
        private int done = 0;
        private int undone = 0;

        void forget(State now) {
            oldest = 0;
            done = 0;
            undone = 0;
            now.saveTo(acts, 0);
        }

        void keep(State now) {
            undone = 0;
            if (done < MAX_ACTS) {
                done++;
            } else {
                oldest = (oldest + 1) % SLOTS;
            }
            now.saveTo(acts, slot());
        }

        /** Where the state stands that is now. */
        private int slot() {
            return (oldest + done) % SLOTS;
        }

        boolean stepBack(State now) {
            if (done == 0) {
                return false;
            }
            done--;
            undone++;
            now.loadFrom(acts, slot());
            return true;
        }

        boolean stepOn(State now) {
            if (undone == 0) {
                return false;
            }
            done++;
            undone--;
            now.loadFrom(acts, slot());
            return true;
        }

        void emptyBoxes() {
            filled = 0;
        }

        boolean fillBox(State now, int box) {
            if (box < 0 || box >= BOXES) {
                return false;
            }
            filled |= 1 << box;
            now.saveTo(boxes, box);
            return true;
        }

        boolean takeBox(State now, int box) {
            if (box < 0 || box >= BOXES || !isIn(filled, box)) {
                return false;
            }
            now.loadFrom(boxes, box);
            return true;
        }
    }

    /**
     * Reads a row: how many readings it has, and the one that is taken.
     *
     * What comes of the cells from one on depends on the sign ahead only where a never bars a sign
     * that fits there, so each cell has one answer for all signs ahead, and answers of their own
     * for those few. Rows are read one after the other, and what lies behind the last cell that is
     * unlike in two of them is not read again.
     */
    private static final class Reader {
        private static final int ANY_ROW = -1;
        private static final int WIDTH = MAX_SIGNS + 1;
        private Told told;
        private int look = 0;
        private boolean fresh = true;
        private final int[] weights = new int[MAX_SIGNS * MAX_CELLS];
        private final int[] inputs = new int[INPUTS];
        /** The first cell from this one on that looks mown, or the row's end. */
        private final int[] mownFrom = new int[MAX_CELLS + 1];
        /** Signs ahead, as bits, for which the cell has an answer of its own. */
        private final int[] own = new int[MAX_CELLS + 1];
        private final int[] best = new int[(MAX_CELLS + 1) * WIDTH];
        private final int[] pick = new int[(MAX_CELLS + 1) * WIDTH];
        private final int[] count = new int[(MAX_CELLS + 1) * WIDTH];
        private final int[] sums = new int[MAX_SIGNS];
        private final int[] counts = new int[MAX_SIGNS];
        private int taken = 0;
        private final int[] cells = new int[MAX_CELLS];
        private final int[] signs = new int[MAX_CELLS];

        Reader(Told rules) {
            told = rules;
        }

        /** Makes ready to read this row, or, if it is ANY_ROW, rows that look as they like. */
        void begin(Told rules, State now, int row) {
            told = rules;
            fresh = true;
            int behind = rules.size;
            mownFrom[behind] = behind;
            own[behind] = 0;
            best[behind * WIDTH + FIRST] = 0;
            count[behind * WIDTH + FIRST] = 1;
            inputs[YEAR - LONG] = now.year;
            for (int sign = 0; sign < rules.signs; sign++) {
                inputs[0] = rules.letters[sign];
                inputs[MUCH - LONG] = now.amounts[rules.signThings[sign]];
                weighEverywhere(sign, row);
            }
        }

        private void weighEverywhere(int sign, int row) {
            for (int cell = 0; cell < told.size; cell++) {
                if (row == ANY_ROW || told.fits(sign, cell, row)) {
                    inputs[PLACE - LONG] = cell;
                    weights[sign * MAX_CELLS + cell] = within(told.weigh.valueBy(inputs), MAX_WEIGHT);
                }
            }
        }

        /** Answers how many readings a row has that looks so. */
        int read(int row) {
            int unlike = fresh ? ~0 : look ^ row;
            fresh = false;
            look = row;
            for (int cell = told.size - 1; cell >= 0; cell--) {
                if (unlike >>> cell != 0) {
                    settle(cell);
                }
            }
            return count[answerAt(0, FIRST)];
        }

        /** Behind read: the weights together of what is taken. */
        int greatest() {
            return best[answerAt(0, FIRST)];
        }

        private int answerAt(int cell, int aheadSign) {
            int at = mownFrom[cell];
            boolean apart = (own[at] >>> aheadSign & 1) != 0;
            return at * WIDTH + (apart ? aheadSign : FIRST);
        }

        private void settle(int cell) {
            if (!isIn(look, cell)) {
                mownFrom[cell] = mownFrom[cell + 1];
                return;
            }
            mownFrom[cell] = cell;
            int able = 0;
            int barred = 0;
            for (int sign = 0; sign < told.signs; sign++) {
                if (told.fits(sign, cell, look) && goesOn(sign, cell)) {
                    able |= 1 << sign;
                    barred |= told.neverAhead[sign];
                }
            }
            own[cell] = barred;
            choose(cell, FIRST, able);
            for (int aheadSign = 0; barred >>> aheadSign != 0 && aheadSign < MAX_SIGNS; aheadSign++) {
                if (isIn(barred, aheadSign)) {
                    choose(cell, aheadSign, able & ~told.neverBehind[aheadSign]);
                }
            }
        }

        private boolean goesOn(int sign, int cell) {
            int rest = answerAt(cell + told.letters[sign], sign);
            if (count[rest] == 0) {
                return false;
            }
            counts[sign] = count[rest];
            sums[sign] = best[rest] + weights[sign * MAX_CELLS + cell];
            return true;
        }

        private void choose(int cell, int aheadSign, int able) {
            int total = 0;
            int chosen = NONE;
            for (int sign = 0; able >>> sign != 0 && sign < MAX_SIGNS; sign++) {
                if (isIn(able, sign)) {
                    total = Math.min(MAX_READINGS, total + counts[sign]);
                    if (chosen == NONE || sums[sign] > sums[chosen]) {
                        chosen = sign;
                    }
                }
            }
            int at = cell * WIDTH + aheadSign;
            count[at] = total;
            pick[at] = chosen;
            best[at] = chosen == NONE ? 0 : sums[chosen];
        }

        /** Behind read, if there is a reading: tells the signs of what is taken, and their cells. */
        boolean follow() {
            taken = 0;
            int cell = mownFrom[0];
            int aheadSign = FIRST;
            for (int i = 0; i < MAX_CELLS && cell < told.size; i++) {
                int sign = pick[answerAt(cell, aheadSign)];
                if (sign == NONE) {
                    return false;
                }
                cells[i] = cell;
                signs[i] = sign;
                taken = i + 1;
                aheadSign = sign;
                cell = mownFrom[cell + told.letters[sign]];
            }
            return true;
        }

        int gainOf(int thing) {
            int gain = 0;
            for (int i = 0; i < taken; i++) {
                if (told.signThings[signs[i]] == thing) {
                    gain += told.values[signs[i]];
                }
            }
            return gain;
        }

        boolean takesAway() {
            for (int i = 0; i < taken; i++) {
                if (told.values[signs[i]] < 0) {
                    return true;
                }
            }
            return false;
        }

        int cellsOf(int sign) {
            int set = 0;
            for (int i = 0; i < taken; i++) {
                if (signs[i] == sign) {
                    set |= 1 << cells[i];
                }
            }
            return set;
        }

        int signAt(int cell) {
            for (int i = 0; i < taken; i++) {
                if (cells[i] == cell) {
                    return signs[i];
                }
            }
            return NONE;
        }
    }

    /** Looks for what to mow; keeps the numbers that lie there. */
    private static final class Planner {
        private final Reader reader;
        private Told told;
        private int look = 0;
        private int open = 0;
        private final int[] numbers = new int[MAX_CELLS];
        private int lying = 0;
        /** What a change is for: a gain of a thing, or, if that is NONE, one reading with the wanted signs. */
        private int goalThing = NONE;
        private int goalGain = 0;
        private final int[] wanted = new int[MAX_CELLS];
        private int wantedCount = 0;
        private final int[] members = new int[MAX_ORDERED];
        private final int[] ways = new int[1 << MAX_ORDERED];
        private final int[] sentence = new int[MAX_WRITTEN];
        private int sentenceLength = 0;

        Planner(Told rules) {
            told = rules;
            reader = new Reader(rules);
        }

        void clear() {
            lying = 0;
        }

        void lay(int number) {
            if (lying < MAX_CELLS) {
                numbers[lying] = number;
                lying++;
            }
        }

        int lyingAt(int i) {
            return i >= 0 && i < lying ? numbers[i] : NONE;
        }

        void begin(Told rules, State now) {
            told = rules;
            look = now.mown | rules.barns;
            open = ((1 << rules.size) - 1) & ~look;
            reader.begin(rules, now, Reader.ANY_ROW);
        }

        private boolean harms(int row) {
            return reader.read(row) > 0 && reader.follow() && reader.takesAway();
        }

        private int gainBy(int row, int thing) {
            return reader.read(row) > 0 && reader.follow() ? reader.gainOf(thing) : 0;
        }

        void wishForGain(int thing, int gain) {
            goalThing = thing;
            goalGain = gain;
        }

        boolean wishForOneReading() {
            if (reader.read(look) == 0 || !reader.follow()) {
                return false;
            }
            goalThing = NONE;
            wantedCount = reader.taken;
            for (int i = 0; i < wantedCount; i++) {
                wanted[i] = reader.signs[i];
            }
            return true;
        }

        int fewestChanges() {
            for (int changes = 0; changes <= MAX_CHANGES; changes++) {
                if (changeFrom(0, changes, look)) {
                    return changes;
                }
            }
            return NONE;
        }

        /** Changes so many cells more, from the first on; those by which the goal is met stay lying there. */
        private boolean changeFrom(int first, int more, int row) {
            if (more <= 0) {
                return meetsGoal(row);
            }
            for (int cell = first; cell <= told.size - more; cell++) {
                if (!isIn(told.barns, cell)) {
                    int before = lying;
                    lay(cell);
                    if (changeFrom(cell + 1, more - 1, row ^ 1 << cell)) {
                        return true;
                    }
                    lying = before;
                }
            }
            return false;
        }

        private boolean meetsGoal(int row) {
            int readings = reader.read(row);
            if (goalThing != NONE) {
                return readings > 0 && reader.follow() && reader.gainOf(goalThing) == goalGain;
            }
            return readings == 1 && reader.follow() && hasWantedSigns();
        }

        private boolean hasWantedSigns() {
            if (reader.taken != wantedCount) {
                return false;
            }
            for (int i = 0; i < wantedCount; i++) {
                if (reader.signs[i] != wanted[i]) {
                    return false;
                }
            }
            return true;
        }

        int countOrders(int set) {
            int count = listMembers(set);
            int all = (1 << count) - 1;
            ways[all] = 1;
            for (int part = all; part >= 0; part--) {
                if (part != 0 && harms(look | cellsOfPart(part, count))) {
                    ways[part] = 0;
                } else if (part != all) {
                    ways[part] = waysOn(part, count);
                }
            }
            if (ways[0] > 0) {
                layFirstOrder(count);
            }
            return ways[0];
        }

        private int listMembers(int set) {
            int count = 0;
            for (int cell = 0; cell < told.size && count < MAX_ORDERED; cell++) {
                if (isIn(set, cell)) {
                    members[count] = cell;
                    count++;
                }
            }
            return count;
        }

        private int cellsOfPart(int part, int count) {
            int set = 0;
            for (int i = 0; i < count; i++) {
                if (isIn(part, i)) {
                    set |= 1 << members[i];
                }
            }
            return set;
        }

        private int waysOn(int part, int count) {
            int sum = 0;
            for (int i = 0; i < count; i++) {
                if (!isIn(part, i)) {
                    sum += ways[part | 1 << i];
                }
            }
            return sum;
        }

        private void layFirstOrder(int count) {
            int part = 0;
            for (int step = 0; step < count; step++) {
                int next = 0;
                for (int i = count - 1; i >= 0; i--) {
                    if (!isIn(part, i) && ways[part | 1 << i] > 0) {
                        next = i;
                    }
                }
                lay(members[next]);
                part |= 1 << next;
            }
        }

        /** Answers how many m the signs have together; their first cells lie there then. */
        int placeFor(int a, int b, int c) {
            sentence[0] = a;
            sentence[1] = b;
            sentence[2] = c;
            sentenceLength = b == NONE ? 1 : c == NONE ? 2 : 3;
            int mown = told.mownLetters(a);
            for (int i = 1; i < sentenceLength; i++) {
                mown += told.mownLetters(sentence[i]);
                if (isIn(told.neverBehind[sentence[i - 1]], sentence[i])) {
                    return NONE;
                }
            }
            return placeFrom(0, 0, 0) ? mown : NONE;
        }

        private boolean placeFrom(int index, int first, int mown) {
            if (index >= sentenceLength) {
                // A barn beside the signs would say something else, so all barns must be within their m.
                return (told.barns & ~mown) == 0 && reader.read(mown) == 1;
            }
            int sign = sentence[index];
            for (int cell = first; cell + told.letters[sign] <= told.size; cell++) {
                int before = lying;
                lay(cell);
                if (placeFrom(index + 1, cell + told.letters[sign], mown | told.shapes[sign] << cell)) {
                    return true;
                }
                lying = before;
            }
            return false;
        }

        int harmfulCells() {
            int set = 0;
            for (int cell = 0; cell < told.size; cell++) {
                if (isIn(open, cell) && harms(look | 1 << cell)) {
                    set |= 1 << cell;
                }
            }
            return set;
        }

        int losingCells(int thing) {
            int now = gainBy(look, thing);
            int losing = 0;
            for (int cell = 0; cell < told.size; cell++) {
                if (isIn(open, cell) && gainBy(look | 1 << cell, thing) < now) {
                    losing++;
                }
            }
            return losing;
        }

        int fight(int thing, int mine, int his, int what) {
            int myCell = NONE;
            int hisCell = NONE;
            int outcome = 0;
            for (int cell = 0; cell < told.size; cell++) {
                if (isIn(mine, cell)) {
                    int reply = worstReply(thing, look | 1 << cell, his);
                    int gain = gainBy(look | 1 << cell | 1 << reply, thing);
                    if (myCell == NONE || gain > outcome) {
                        myCell = cell;
                        hisCell = reply;
                        outcome = gain;
                    }
                }
            }
            return what == 0 ? outcome : what == 1 ? myCell : hisCell;
        }

        private int worstReply(int thing, int row, int his) {
            int reply = NONE;
            int least = 0;
            for (int cell = 0; cell < told.size; cell++) {
                if (isIn(his, cell)) {
                    int gain = gainBy(row | 1 << cell, thing);
                    if (reply == NONE || gain < least) {
                        reply = cell;
                        least = gain;
                    }
                }
            }
            return reply;
        }
    }

    /** What was told of rows that were understood or not, and the grammars by which that is so. */
    private static final class Hearsay {
        private int signs = 0;
        private int count = 0;
        private int time = 0;
        private final int[] pairs = new int[MAX_HEARD];
        private final boolean[] understood = new boolean[MAX_HEARD];
        private final int[] toldAt = new int[MAX_HEARD];
        private final int[] untoldAt = new int[MAX_HEARD];
        /** Of each pair, as bits: those that can't make sense beside it. */
        private final int[] rivals = new int[MAX_PAIRS];

        void begin(int signCount) {
            signs = Math.min(signCount, HEARD_SIGNS);
            count = 0;
        }

        private boolean isOne(int sign) {
            return sign >= 0 && sign < signs;
        }

        private int pairOf(int a, int b) {
            return 1 << (a * signs + b);
        }

        int hear(int a, int b, int c, boolean is) {
            if (count >= MAX_HEARD || !isOne(a) || !isOne(b) || c != NONE && !isOne(c)) {
                return NONE;
            }
            pairs[count] = pairOf(a, b) | (c == NONE ? 0 : pairOf(b, c));
            understood[count] = is;
            toldAt[count] = time;
            untoldAt[count] = NONE;
            count++;
            return count - 1;
        }

        boolean takeBack(int which) {
            if (which < 0 || which >= count || untoldAt[which] != NONE) {
                return false;
            }
            untoldAt[which] = time;
            return true;
        }

        int goOn(int by) {
            if (by < 0 || by > MAX_LATER || time + by > MAX_TIME) {
                return NONE;
            }
            time += by;
            return time;
        }

        private boolean counts(int which, int k) {
            return toldAt[which] <= k && (untoldAt[which] == NONE || untoldAt[which] > k);
        }

        /** How many grammars fit as known at k in which these pairs make sense too. */
        int grammars(int k, int sensible) {
            int forced = sensible;
            for (int i = 0; i < count; i++) {
                if (counts(i, k) && understood[i]) {
                    forced |= pairs[i];
                }
            }
            for (int pair = 0; pair < MAX_PAIRS; pair++) {
                rivals[pair] = 0;
            }
            int free = ((1 << signs * signs) - 1) & ~forced;
            for (int i = 0; i < count; i++) {
                if (counts(i, k) && !understood[i]) {
                    int doubtful = pairs[i] & ~forced;
                    if (doubtful == 0) {
                        return 0;
                    }
                    if (Integer.bitCount(doubtful) == 1) {
                        free &= ~doubtful;
                    } else {
                        setAgainst(doubtful);
                    }
                }
            }
            return choicesFrom(0, free);
        }

        private void setAgainst(int two) {
            for (int pair = 0; pair < MAX_PAIRS; pair++) {
                if (isIn(two, pair)) {
                    rivals[pair] |= two & ~(1 << pair);
                }
            }
        }

        /** How many sets of free pairs there are, from this pair on, without two rivals. */
        private int choicesFrom(int pair, int free) {
            if (pair >= MAX_PAIRS || free == 0) {
                return 1;
            }
            int rest = free & ~(1 << pair);
            if (rest == free) {
                return choicesFrom(pair + 1, free);
            }
            int without = choicesFrom(pair + 1, rest);
            int near = rivals[pair] & rest;
            return without + (near == 0 ? without : choicesFrom(pair + 1, rest & ~near));
        }

        int certainty(int a, int b, int k) {
            int all = grammars(k, 0);
            if (all == 0 || !isOne(a) || !isOne(b)) {
                return NONE;
            }
            int with = grammars(k, pairOf(a, b));
            return with == all ? 1 : with == 0 ? 0 : REFUSED;
        }

        int question(int what, int k) {
            int all = grammars(k, 0);
            if (all == 0 || signs == 0 || what < 0 || what > 1) {
                return NONE;
            }
            int bestPair = NONE;
            int fewest = 0;
            for (int a = 0; a < signs; a++) {
                for (int b = 0; b < signs; b++) {
                    int with = grammars(k, pairOf(a, b));
                    int left = Math.max(with, all - with);
                    if (bestPair == NONE || left < fewest) {
                        bestPair = 10 * a + b;
                        fewest = left;
                    }
                }
            }
            return what == 0 ? bestPair : fewest;
        }
    }
}
