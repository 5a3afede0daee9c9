/**
 * Runs small programs on exact fractions, lays each step on a tape, and tells from that tape how
 * the results move with the inputs.
 */
public final class SlopeRunner {
    public static final int NONE = -1;
    public static final long NO = -2000000000L;

    private final Text text;
    private final Parser parser;
    private final Inputs inputs;
    private final Machine machine;
    private final Slopes slopes;
    private final Grouping grouping;
    private final Keepers keepers;
    private final Tape latest;
    private final Tape trial;
    private Program current;
    private Program spare;

    public SlopeRunner() {
        text = new Text();
        parser = new Parser();
        inputs = new Inputs();
        machine = new Machine();
        slopes = new Slopes();
        grouping = new Grouping();
        keepers = new Keepers();
        latest = new Tape();
        trial = new Tape();
        current = new Program();
        spare = new Program();
    }

    public int feed(int a, int b, int c, int d, int e) {
        if (!text.hasRoomFor(20)) {
            return NONE;
        }
        text.addFour(a);
        text.addFour(b);
        text.addFour(c);
        text.addFour(d);
        text.addFour(e);
        return text.size();
    }

    public boolean end(int n) {
        return text.cutTo(n);
    }

    public int program() {
        // A fault must leave the program as it was, so the text is read into the spare one.
        boolean good = parser.read(text, spare);
        text.cutTo(0);
        if (!good) {
            return NONE;
        }
        Program old = current;
        current = spare;
        spare = old;
        inputs.begin(current.inputs);
        latest.forget();
        grouping.forget();
        return current.statements;
    }

    public int fault(int what) {
        switch (what) {
            case 0:
                return parser.faultKind();
            case 1:
                return parser.faultPlace();
            default:
                return NONE;
        }
    }

    public int has(int what) {
        switch (what) {
            case 0:
                return current.inputs;
            case 1:
                return current.rows;
            case 2:
                return current.vars;
            case 3:
                return current.statements;
            case 4:
                return current.numbers;
            default:
                return NONE;
        }
    }

    public boolean put(int input, int above, int below) {
        if (!inputs.holds(input) || !Fractions.canBe(above, below)) {
            return false;
        }
        inputs.change(input, Fractions.of(above, below));
        return true;
    }

    public boolean undo() {
        return inputs.stepBack();
    }

    public boolean redo() {
        return inputs.stepOn();
    }

    public long input(int input, boolean above) {
        return answer(inputs.valueOf(input), above);
    }

    public int run() {
        latest.begin(current, inputs.value);
        return machine.play(current, latest);
    }

    public int ran(int what) {
        if (latest.state == Tape.NEVER) {
            return NONE;
        }
        switch (what) {
            case 0:
                return latest.steps;
            case 1:
                return latest.size;
            case 2:
                return latest.results;
            case 3:
                return latest.edges;
            default:
                return NONE;
        }
    }

    public long result(int r, boolean above) {
        return answer(latest.resultValue(r), above);
    }

    public long near(boolean above) {
        return answer(latest.nearest, above);
    }

    public long forward(int r, int input, boolean above) {
        if (!latest.hasBoth(r, input)) {
            return NO;
        }
        return answer(slopes.slopeForward(latest, r, input), above);
    }

    public long backward(int r, int input, boolean above) {
        if (!latest.hasBoth(r, input)) {
            return NO;
        }
        return answer(slopes.slopeBackward(latest, r, input), above);
    }

    public long twice(int r, int i, int j, boolean above) {
        if (!latest.hasBoth(r, i) || !latest.hasBoth(r, j)) {
            return NO;
        }
        return answer(slopes.slopeTwice(latest, r, i, j), above);
    }

    public long difference(int r, int input, int h, int below, boolean above) {
        if (!latest.hasBoth(r, input) || h == 0 || !Fractions.canBe(h, below)) {
            return NO;
        }
        long more = Fractions.of(h, below);
        long moved = Fractions.plus(latest.valueAt(input), more);
        if (moved == Fractions.STUCK) {
            return NO;
        }
        // The other inputs are those of the latest run, perhaps no longer those that are put.
        trial.begin(current, latest.value);
        trial.putInput(input, moved);
        machine.play(current, trial);
        if (trial.state != Tape.WHOLE) {
            return NO;
        }
        long gap = Fractions.minus(trial.resultValue(r), latest.resultValue(r));
        return answer(Fractions.over(gap, more), above);
    }

    public int moves(int r) {
        return latest.hasResult(r) ? slopes.moverBits(latest, r) : NONE;
    }

    public int ways(int r, int input) {
        return latest.hasBoth(r, input) ? slopes.countWays(latest, r, input) : NONE;
    }

    public int groups() {
        if (latest.state == Tape.NEVER) {
            return NONE;
        }
        grouping.begin(latest.inputs);
        for (int r = 0; r < latest.results; r++) {
            grouping.keepApart(slopes.moverBits(latest, r));
        }
        return grouping.settle();
    }

    public int group(int input) {
        return grouping.groupOf(input);
    }

    public int again(int n, int k) {
        return keepers.roundsAgain(n, k);
    }

    public int first(int n, int k) {
        return keepers.firstKept(n, k);
    }

    private static long answer(long fraction, boolean above) {
        if (fraction == Fractions.STUCK) {
            return NO;
        }
        return above ? Fractions.above(fraction) : Fractions.below(fraction);
    }

    /**
     * A fraction is one long: what stands above in the high bits, what stands below in the low
     * thirty. It is always in lowest terms, so like fractions are like longs, and no call has to
     * make an object. What can't be a number is STUCK, 0 with 0 below: all that is worked out from
     * it has 0 below, too, and so is STUCK without a test of its own.
     */
    private static final class Fractions {
        static final int MOST = 1000000000;
        static final int LOW_BITS = 30;
        static final long LOW_MASK = (1L << LOW_BITS) - 1;
        static final long STUCK = 0L;
        static final long ZERO = 1L;
        static final long ONE = (1L << LOW_BITS) | 1L;
        // Euclid's way ends within 92 rounds for all longs.
        static final int MOST_ROUNDS = 100;

        static boolean canBe(int above, int below) {
            return above >= -MOST && above <= MOST && below >= 1 && below <= MOST;
        }

        static long above(long x) {
            return x >> LOW_BITS;
        }

        static long below(long x) {
            return x & LOW_MASK;
        }

        static long of(long above, long below) {
            if (below == 0) {
                return STUCK;
            }
            long up = below < 0 ? -above : above;
            long down = Math.abs(below);
            long shared = greatestShared(Math.abs(up), down);
            if (shared > 1) {
                up = up / shared;
                down = down / shared;
            }
            if (up < -MOST || up > MOST || down > MOST) {
                return STUCK;
            }
            return (up << LOW_BITS) | down;
        }

        static long plus(long x, long y) {
            return of(above(x) * below(y) + above(y) * below(x), below(x) * below(y));
        }

        static long minus(long x, long y) {
            return of(above(x) * below(y) - above(y) * below(x), below(x) * below(y));
        }

        static long times(long x, long y) {
            return of(above(x) * above(y), below(x) * below(y));
        }

        static long over(long x, long y) {
            return of(above(x) * below(y), below(x) * above(y));
        }

        /** 0 less x; the bounds are the same on both sides of 0, so it can always be. */
        static long turned(long x) {
            return (-above(x) << LOW_BITS) | below(x);
        }

        static long withoutSign(long x) {
            return above(x) < 0 ? turned(x) : x;
        }

        static int compare(long x, long y) {
            return Long.compare(above(x) * below(y), above(y) * below(x));
        }

        private static long greatestShared(long x, long y) {
            long big = x;
            long small = y;
            for (int i = 0; i < MOST_ROUNDS && small != 0; i++) {
                long rest = big % small;
                big = small;
                small = rest;
            }
            return big;
        }
    }

    /** What has been fed and is not yet taken as a program. */
    private static final class Text {
        static final int ROOM = 700;

        private final byte[] bytes = new byte[ROOM];
        private int length;

        boolean hasRoomFor(int more) {
            return length + more <= ROOM;
        }

        void addFour(int four) {
            for (int shift = 24; shift >= 0 && length < ROOM; shift -= 8) {
                bytes[length] = (byte) (four >> shift);
                length++;
            }
        }

        boolean cutTo(int n) {
            if (n < 0 || n > length) {
                return false;
            }
            length = n;
            return true;
        }

        int size() {
            return length;
        }

        int at(int place) {
            return place >= 0 && place < length ? bytes[place] & 255 : NONE;
        }
    }

    /** A program as code for the machine: a number of what to do, with one number behind it. */
    private static final class Program {
        static final int MOST_INPUTS = 8;
        static final int MOST_ROWS = 4;
        static final int MOST_VARS = 12;
        static final int MOST_STATEMENTS = 80;
        static final int MOST_PLACES = 16;
        static final int MOST_NAMES = MOST_INPUTS + MOST_ROWS + MOST_VARS;
        static final int FIRST_VAR_SLOT = MOST_INPUTS;
        static final int FIRST_ROW_SLOT = FIRST_VAR_SLOT + MOST_VARS;
        static final int SLOTS = FIRST_ROW_SLOT + MOST_ROWS * MOST_PLACES;
        // Two numbers of a text never touch, and each bit of code comes from bytes of its own.
        static final int NUMBER_ROOM = Text.ROOM / 2;
        static final int CODE_ROOM = Text.ROOM;

        static final int NUMBER = 0;
        static final int LOAD = 1;
        static final int LOAD_ROW = 2;
        static final int STORE = 3;
        static final int STORE_ROW = 4;
        static final int GIVE = 5;
        static final int PLUS = 6;
        static final int MINUS = 7;
        static final int TIMES = 8;
        static final int OVER = 9;
        static final int ABS = 10;
        static final int MIN = 11;
        static final int MAX = 12;
        static final int LESS = 13;
        static final int MORE = 14;
        static final int LIKE = 15;
        static final int NOT = 16;
        static final int AND = 17;
        static final int OR = 18;
        static final int UNLESS = 19;
        static final int JUMP = 20;

        private static final int ARGUMENT_BITS = 12;
        private static final int ARGUMENT_MASK = (1 << ARGUMENT_BITS) - 1;

        int inputs;
        int rows;
        int vars;
        int statements;
        int numbers;
        int length;
        final int[] places = new int[MOST_ROWS];
        private int names;
        private final long[] name = new long[MOST_NAMES];
        private final int[] slot = new int[MOST_NAMES];
        private final int[] number = new int[NUMBER_ROOM];
        private final int[] code = new int[CODE_ROOM];
        private final int[] aside = new int[CODE_ROOM];

        void clear() {
            inputs = 0;
            rows = 0;
            vars = 0;
            statements = 0;
            numbers = 0;
            names = 0;
            length = 0;
        }

        void emit(int what, int argument) {
            if (length < CODE_ROOM) {
                code[length] = (what << ARGUMENT_BITS) | (argument & ARGUMENT_MASK);
                length++;
            }
        }

        void emitNumber(int n) {
            if (numbers < NUMBER_ROOM) {
                number[numbers] = n;
                emit(NUMBER, numbers);
                numbers++;
            }
        }

        /** A jump that is emitted ahead of its aim gets it here. */
        void aimHere(int jump) {
            if (jump >= 0 && jump < length) {
                code[jump] = (code[jump] & ~ARGUMENT_MASK) | length;
            }
        }

        /** The code from 'from' to 'middle' comes behind that from 'middle' to the end. */
        void swap(int from, int middle) {
            int ahead = middle - from;
            int behind = length - middle;
            if (from < 0 || ahead <= 0 || behind <= 0) {
                return;
            }
            System.arraycopy(code, from, aside, 0, ahead);
            System.arraycopy(code, middle, code, from, behind);
            System.arraycopy(aside, 0, code, from + behind, ahead);
        }

        /** A name's slot is the first that it has in the machine. */
        void addName(int what, long word) {
            if (names < MOST_NAMES) {
                name[names] = word;
                slot[names] = newSlot(what);
                names++;
            }
        }

        int slotOf(long word) {
            for (int i = 0; i < names; i++) {
                if (name[i] == word) {
                    return slot[i];
                }
            }
            return NONE;
        }

        private int newSlot(int what) {
            switch (what) {
                case Tokens.INPUT:
                    inputs++;
                    return inputs - 1;
                case Tokens.ROW:
                    rows++;
                    return FIRST_ROW_SLOT + (rows - 1) * MOST_PLACES;
                default:
                    vars++;
                    return FIRST_VAR_SLOT + vars - 1;
            }
        }

        void sizeLatestRow(int size) {
            if (rows >= 1 && rows <= MOST_ROWS) {
                places[rows - 1] = size;
            }
        }

        static int rowOf(int slot) {
            return (slot - FIRST_ROW_SLOT) / MOST_PLACES;
        }

        int whatAt(int at) {
            return at >= 0 && at < length ? code[at] >> ARGUMENT_BITS : NONE;
        }

        int argumentAt(int at) {
            return at >= 0 && at < length ? code[at] & ARGUMENT_MASK : 0;
        }

        int numberAt(int k) {
            return k >= 0 && k < numbers ? number[k] : 0;
        }
    }

    /** A text cut into words, numbers and signs. The kind of a sign is its byte. */
    private static final class Tokens {
        static final int MOST_LETTERS = 6;
        static final int MOST_DIGITS = 4;
        static final int END = 256;
        static final int GLUED = 257;
        static final int NAME = 258;
        static final int LONG_WORD = 259;
        static final int NUMBER = 260;
        static final int LONG_NUMBER = 261;
        // The kinds of the language's own words go on from here, in the order of OWN_WORDS.
        static final int INPUT = 262;
        static final int ROW = 263;
        static final int VAR = 264;
        static final int SET = 265;
        static final int GIVE = 266;
        static final int IF = 267;
        static final int WHILE = 268;
        static final int ELSE = 269;
        static final int AND = 270;
        static final int OR = 271;
        static final int NOT = 272;
        static final int ABS = 273;
        static final int MIN = 274;
        static final int MAX = 275;
        private static final int OWN = 14;
        private static final String OWN_WORDS =
                "input row var set give if while else and or not abs min max ";

        private final long[] own = new long[OWN];
        private final int[] kind = new int[Text.ROOM];
        private final int[] start = new int[Text.ROOM];
        private final long[] worth = new long[Text.ROOM];
        private int count;
        private int length;

        Tokens() {
            int word = 0;
            for (int i = 0; i < OWN_WORDS.length() && word < OWN; i++) {
                if (OWN_WORDS.charAt(i) == ' ') {
                    word++;
                } else {
                    own[word] = joined(own[word], OWN_WORDS.charAt(i));
                }
            }
        }

        void cut(Text text) {
            count = 0;
            length = text.size();
            int place = 0;
            for (int i = 0; i < Text.ROOM && place < length; i++) {
                place = take(text, place);
            }
        }

        int kindAt(int i) {
            return i >= 0 && i < count ? kind[i] : END;
        }

        int startAt(int i) {
            return i >= 0 && i < count ? start[i] : length;
        }

        /** A number as such, or a name as joined letters. */
        long worthAt(int i) {
            return i >= 0 && i < count ? worth[i] : 0;
        }

        /** Takes what stands at a place; where to go on. */
        private int take(Text text, int place) {
            int sign = text.at(place);
            if (isLetter(sign)) {
                return takeWord(text, place);
            }
            if (isDigit(sign)) {
                return takeNumber(text, place);
            }
            if (!isBlank(sign)) {
                add(sign, place, 0);
            }
            return place + 1;
        }

        private int takeWord(Text text, int place) {
            long word = 0;
            int past = place;
            for (int i = 0; i < Text.ROOM && isLetter(text.at(past)); i++) {
                word = joined(word, text.at(past));
                past++;
            }
            int what = past - place > MOST_LETTERS ? LONG_WORD : kindOfWord(word);
            add(isGlued(text, place) ? GLUED : what, place, word);
            return past;
        }

        private int takeNumber(Text text, int place) {
            int number = 0;
            int past = place;
            for (int i = 0; i < Text.ROOM && isDigit(text.at(past)); i++) {
                number = number * 10 + text.at(past) - '0';
                past++;
            }
            int what = past - place > MOST_DIGITS ? LONG_NUMBER : NUMBER;
            add(isGlued(text, place) ? GLUED : what, place, number);
            return past;
        }

        private void add(int what, int place, long itsWorth) {
            if (count < Text.ROOM) {
                kind[count] = what;
                start[count] = place;
                worth[count] = itsWorth;
                count++;
            }
        }

        private int kindOfWord(long word) {
            for (int i = 0; i < OWN; i++) {
                if (own[i] == word) {
                    return INPUT + i;
                }
            }
            return NAME;
        }

        /** Six letters fit into a long, and longer words are told apart by their kind. */
        private static long joined(long word, int letter) {
            return (word << 8) | letter;
        }

        /** Words and numbers side by side need a blank, even where one could tell them apart. */
        private static boolean isGlued(Text text, int place) {
            int before = text.at(place - 1);
            return isLetter(before) || isDigit(before);
        }

        private static boolean isBlank(int sign) {
            return sign == 10 || sign == 32;
        }

        private static boolean isDigit(int sign) {
            return sign >= '0' && sign <= '9';
        }

        private static boolean isLetter(int sign) {
            return sign >= 'a' && sign <= 'z' || sign >= 'A' && sign <= 'Z';
        }
    }

    /**
     * Reads a text from the left on and stops at its first fault: a method that answers false has
     * told it and stands at the token that has it. What is open at once is limited, and that
     * limits how deep the methods call one another.
     */
    private static final class Parser {
        private static final int NO_WAY_ON = 1;
        private static final int NO_SUCH_NUMBER = 2;
        private static final int WRONG_NAME = 3;
        private static final int TOO_DEEP = 4;
        private static final int TOO_MANY = 5;
        private static final int MOST_OPEN = 8;

        private final Tokens tokens = new Tokens();
        private Program into;
        private int at;
        private int kind;
        private int open;
        private int kindOfFault;
        private int bytesIntoToken;
        private int placeOfFault = NONE;

        int faultKind() {
            return kindOfFault;
        }

        int faultPlace() {
            return placeOfFault;
        }

        boolean read(Text text, Program to) {
            tokens.cut(text);
            to.clear();
            into = to;
            at = 0;
            kind = tokens.kindAt(0);
            open = 0;
            kindOfFault = 0;
            placeOfFault = NONE;
            if (statements(false)) {
                return true;
            }
            placeOfFault = tokens.startAt(at) + bytesIntoToken;
            return false;
        }

        private boolean refuse(int fault) {
            kindOfFault = fault;
            bytesIntoToken = 0;
            return false;
        }

        private boolean refuseWithin(int fault, int bytes) {
            kindOfFault = fault;
            bytesIntoToken = bytes;
            return false;
        }

        private void pass() {
            at++;
            kind = tokens.kindAt(at);
        }

        private boolean statements(boolean within) {
            for (int i = 0; i <= Program.MOST_STATEMENTS; i++) {
                if (kind == Tokens.END) {
                    return within ? refuse(NO_WAY_ON) : true;
                }
                if (within && kind == '}') {
                    return true;
                }
                if (into.statements >= Program.MOST_STATEMENTS) {
                    return refuse(TOO_MANY);
                }
                if (!statement(within)) {
                    return false;
                }
            }
            return refuse(TOO_MANY);
        }

        private boolean statement(boolean within) {
            switch (kind) {
                case Tokens.INPUT:
                case Tokens.ROW:
                case Tokens.VAR:
                    return within ? refuse(NO_WAY_ON) : declaration();
                case Tokens.SET:
                    return setting();
                case Tokens.GIVE:
                    return giving();
                case Tokens.IF:
                    return choice();
                case Tokens.WHILE:
                    return loop();
                default:
                    return refuse(NO_WAY_ON);
            }
        }

        private void beginStatement() {
            into.statements++;
            pass();
        }

        private boolean declaration() {
            int what = kind;
            if (isFull(what)) {
                return refuse(TOO_MANY);
            }
            beginStatement();
            if (!newName(what)) {
                return false;
            }
            if (what == Tokens.ROW && (!expect('[') || !placesOfRow() || !expect(']'))) {
                return false;
            }
            return expect(';');
        }

        private boolean isFull(int what) {
            switch (what) {
                case Tokens.INPUT:
                    return into.inputs >= Program.MOST_INPUTS;
                case Tokens.ROW:
                    return into.rows >= Program.MOST_ROWS;
                default:
                    return into.vars >= Program.MOST_VARS;
            }
        }

        private boolean newName(int what) {
            if (!isName()) {
                return false;
            }
            long word = tokens.worthAt(at);
            if (into.slotOf(word) != NONE) {
                return refuse(WRONG_NAME);
            }
            into.addName(what, word);
            pass();
            return true;
        }

        private boolean placesOfRow() {
            if (!isNumber()) {
                return false;
            }
            int places = (int) tokens.worthAt(at);
            if (places < 1 || places > Program.MOST_PLACES) {
                return refuse(NO_SUCH_NUMBER);
            }
            into.sizeLatestRow(places);
            pass();
            return true;
        }

        private boolean setting() {
            beginStatement();
            int from = into.length;
            int slot = knownName();
            if (slot == NONE) {
                return false;
            }
            boolean inRow = slot >= Program.FIRST_ROW_SLOT;
            if (inRow && !index()) {
                return false;
            }
            int middle = into.length;
            if (!expect('=') || !sum() || !expect(';')) {
                return false;
            }
            // The sum is worked ahead of the place's own sum, though it stands behind it.
            into.swap(from, middle);
            if (inRow) {
                into.emit(Program.STORE_ROW, Program.rowOf(slot));
            } else {
                into.emit(Program.STORE, slot);
            }
            return true;
        }

        private boolean giving() {
            beginStatement();
            if (!sum() || !expect(';')) {
                return false;
            }
            into.emit(Program.GIVE, 0);
            return true;
        }

        private boolean choice() {
            beginStatement();
            if (!test()) {
                return false;
            }
            int otherwise = into.length;
            into.emit(Program.UNLESS, 0);
            if (!block()) {
                return false;
            }
            if (kind != Tokens.ELSE) {
                into.aimHere(otherwise);
                return true;
            }
            pass();
            int past = into.length;
            into.emit(Program.JUMP, 0);
            into.aimHere(otherwise);
            if (!block()) {
                return false;
            }
            into.aimHere(past);
            return true;
        }

        private boolean loop() {
            beginStatement();
            int top = into.length;
            if (!test()) {
                return false;
            }
            int out = into.length;
            into.emit(Program.UNLESS, 0);
            if (!block()) {
                return false;
            }
            into.emit(Program.JUMP, top);
            into.aimHere(out);
            return true;
        }

        private boolean block() {
            return openWith('{') && statements(true) && closeWith('}');
        }

        private boolean test() {
            if (!both()) {
                return false;
            }
            for (int i = 0; i < Text.ROOM && kind == Tokens.OR; i++) {
                pass();
                if (!both()) {
                    return false;
                }
                into.emit(Program.OR, 0);
            }
            return true;
        }

        private boolean both() {
            if (!fact()) {
                return false;
            }
            for (int i = 0; i < Text.ROOM && kind == Tokens.AND; i++) {
                pass();
                if (!fact()) {
                    return false;
                }
                into.emit(Program.AND, 0);
            }
            return true;
        }

        private boolean fact() {
            if (kind == '[') {
                return openWith('[') && test() && closeWith(']');
            }
            if (kind == Tokens.NOT) {
                if (!openWith(Tokens.NOT) || !fact()) {
                    return false;
                }
                open--;
                into.emit(Program.NOT, 0);
                return true;
            }
            if (!sum()) {
                return false;
            }
            int what = kindOfSign();
            if (what == NONE) {
                return refuse(NO_WAY_ON);
            }
            pass();
            if (!sum()) {
                return false;
            }
            into.emit(what, 0);
            return true;
        }

        private int kindOfSign() {
            switch (kind) {
                case '<':
                    return Program.LESS;
                case '>':
                    return Program.MORE;
                case '=':
                    return Program.LIKE;
                default:
                    return NONE;
            }
        }

        private boolean sum() {
            if (!product()) {
                return false;
            }
            for (int i = 0; i < Text.ROOM && (kind == '+' || kind == '-'); i++) {
                int what = kind == '+' ? Program.PLUS : Program.MINUS;
                pass();
                if (!product()) {
                    return false;
                }
                into.emit(what, 0);
            }
            return true;
        }

        private boolean product() {
            if (!part()) {
                return false;
            }
            for (int i = 0; i < Text.ROOM && (kind == '*' || kind == '/'); i++) {
                int what = kind == '*' ? Program.TIMES : Program.OVER;
                pass();
                if (!part()) {
                    return false;
                }
                into.emit(what, 0);
            }
            return true;
        }

        private boolean part() {
            switch (kind) {
                case '(':
                    return openWith('(') && sum() && closeWith(')');
                case Tokens.NUMBER:
                case Tokens.LONG_NUMBER:
                    return written();
                case Tokens.ABS:
                    return ofOne(Program.ABS);
                case Tokens.MIN:
                    return ofTwo(Program.MIN);
                case Tokens.MAX:
                    return ofTwo(Program.MAX);
                default:
                    return reading();
            }
        }

        private boolean written() {
            if (!isNumber()) {
                return false;
            }
            into.emitNumber((int) tokens.worthAt(at));
            pass();
            return true;
        }

        private boolean ofOne(int what) {
            pass();
            if (!openWith('(') || !sum() || !closeWith(')')) {
                return false;
            }
            into.emit(what, 0);
            return true;
        }

        private boolean ofTwo(int what) {
            pass();
            if (!openWith('(') || !sum() || !expect(',') || !sum() || !closeWith(')')) {
                return false;
            }
            into.emit(what, 0);
            return true;
        }

        private boolean reading() {
            int slot = knownName();
            if (slot == NONE) {
                return false;
            }
            if (slot < Program.FIRST_ROW_SLOT) {
                into.emit(Program.LOAD, slot);
                return true;
            }
            if (!index()) {
                return false;
            }
            into.emit(Program.LOAD_ROW, Program.rowOf(slot));
            return true;
        }

        private boolean index() {
            return openWith('[') && sum() && closeWith(']');
        }

        private int knownName() {
            if (!isName()) {
                return NONE;
            }
            int slot = into.slotOf(tokens.worthAt(at));
            if (slot == NONE) {
                refuse(WRONG_NAME);
            } else {
                pass();
            }
            return slot;
        }

        private boolean isName() {
            if (kind == Tokens.LONG_WORD) {
                return refuseWithin(NO_WAY_ON, Tokens.MOST_LETTERS);
            }
            return kind == Tokens.NAME || refuse(NO_WAY_ON);
        }

        private boolean isNumber() {
            if (kind == Tokens.LONG_NUMBER) {
                return refuseWithin(NO_WAY_ON, Tokens.MOST_DIGITS);
            }
            return kind == Tokens.NUMBER || refuse(NO_WAY_ON);
        }

        private boolean openWith(int what) {
            if (kind != what) {
                return refuse(NO_WAY_ON);
            }
            if (open >= MOST_OPEN) {
                return refuse(TOO_DEEP);
            }
            open++;
            pass();
            return true;
        }

        private boolean closeWith(int what) {
            if (kind != what) {
                return refuse(NO_WAY_ON);
            }
            open--;
            pass();
            return true;
        }

        private boolean expect(int what) {
            if (kind != what) {
                return refuse(NO_WAY_ON);
            }
            pass();
            return true;
        }
    }

    /** The inputs as they are put, with the changes that can be undone and done again. */
    private static final class Inputs {
        private static final int MOST_UNDONE = 40;

        final long[] value = new long[Program.MOST_INPUTS];
        private final int[] changed = new int[MOST_UNDONE];
        private final long[] before = new long[MOST_UNDONE];
        private final long[] after = new long[MOST_UNDONE];
        private int count;
        private int done;
        private int known;

        void begin(int inputs) {
            count = inputs;
            done = 0;
            known = 0;
            for (int i = 0; i < value.length; i++) {
                value[i] = Fractions.ZERO;
            }
        }

        boolean holds(int input) {
            return input >= 0 && input < count;
        }

        long valueOf(int input) {
            return holds(input) ? value[input] : Fractions.STUCK;
        }

        void change(int input, long to) {
            if (!holds(input)) {
                return;
            }
            if (done >= MOST_UNDONE) {
                dropOldest();
            }
            changed[done] = input;
            before[done] = value[input];
            after[done] = to;
            value[input] = to;
            done++;
            known = done;
        }

        boolean stepBack() {
            if (done <= 0) {
                return false;
            }
            done--;
            value[changed[done]] = before[done];
            return true;
        }

        boolean stepOn() {
            if (done >= known) {
                return false;
            }
            value[changed[done]] = after[done];
            done++;
            return true;
        }

        private void dropOldest() {
            done = MOST_UNDONE - 1;
            System.arraycopy(changed, 1, changed, 0, done);
            System.arraycopy(before, 1, before, 0, done);
            System.arraycopy(after, 1, after, 0, done);
        }
    }

    /**
     * What a run lays down. A step of abs, min or max stands here by what it came to: KEPT for the
     * one that it is, TURNED for that with the other sign, so that slopes need not look again.
     */
    private static final class Tape {
        static final int NEVER = -1;
        static final int GOING = -2;
        static final int WHOLE = 0;
        static final int STUCK = 1;
        static final int LONG = 2;
        static final int MOST_STEPS = 1000;
        static final int MOST_RESULTS = 12;
        static final int ROOM = Program.MOST_INPUTS + 1 + Program.NUMBER_ROOM + MOST_STEPS;
        static final int KEPT = 30;
        static final int TURNED = 31;

        final long[] value = new long[ROOM];
        final int[] kind = new int[ROOM];
        final int[] left = new int[ROOM];
        final int[] right = new int[ROOM];
        final int[] given = new int[MOST_RESULTS];
        int state = NEVER;
        int inputs;
        int firstStep;
        int size;
        int steps;
        int results;
        int edges;
        long nearest = Fractions.STUCK;

        void forget() {
            state = NEVER;
            inputs = 0;
            firstStep = 0;
            size = 0;
            steps = 0;
            results = 0;
            edges = 0;
            nearest = Fractions.STUCK;
        }

        /** The inputs come from the first of the values. */
        void begin(Program program, long[] values) {
            forget();
            state = GOING;
            inputs = program.inputs;
            firstStep = inputs + 1 + program.numbers;
            size = firstStep;
            for (int i = 0; i < inputs && i < values.length; i++) {
                value[i] = values[i];
            }
            value[zeroAt()] = Fractions.ZERO;
            for (int i = 0; i < program.numbers; i++) {
                value[numberAt(i)] = Fractions.of(program.numberAt(i), 1);
            }
        }

        void putInput(int input, long to) {
            if (input >= 0 && input < inputs) {
                value[input] = to;
            }
        }

        /** Where the one 0 is that all places hold at first. */
        int zeroAt() {
            return inputs;
        }

        int numberAt(int k) {
            return inputs + 1 + k;
        }

        boolean hasResult(int r) {
            return r >= 0 && r < results;
        }

        boolean hasBoth(int r, int input) {
            return hasResult(r) && input >= 0 && input < inputs;
        }

        long resultValue(int r) {
            return hasResult(r) ? valueAt(given[r]) : Fractions.STUCK;
        }

        int resultAt(int r) {
            return hasResult(r) ? given[r] : zeroAt();
        }

        long valueAt(int at) {
            return holds(at) ? value[at] : Fractions.STUCK;
        }

        /** Only what is on the tape can be worked with, so left and right are always ahead. */
        int lay(int what, int a, int b, long worth) {
            if (size >= ROOM || !holds(a) || !holds(b)) {
                return zeroAt();
            }
            kind[size] = what;
            left[size] = a;
            right[size] = b;
            value[size] = worth;
            size++;
            steps++;
            return size - 1;
        }

        boolean giveOut(int at) {
            if (results >= MOST_RESULTS || !holds(at)) {
                return false;
            }
            given[results] = at;
            results++;
            return true;
        }

        private boolean holds(int at) {
            return at >= 0 && at < size;
        }

        /** Two sides of a test have met: is that an edge, and how near was it? */
        void meet(long x, long y) {
            if (x == y) {
                edges++;
            }
            long gap = Fractions.withoutSign(Fractions.minus(x, y));
            if (gap == Fractions.STUCK) {
                return;
            }
            if (nearest == Fractions.STUCK || Fractions.compare(gap, nearest) < 0) {
                nearest = gap;
            }
        }
    }

    /** Plays a program's code onto a tape; its stack holds tape numbers, and 1 or 0 for facts. */
    private static final class Machine {
        // At most eight things are open at once, and each leaves at most three waiting.
        private static final int STACK_ROOM = 64;
        // Each way back to a loop's top meets a sign, which is a step, and there are 1001 of them.
        private static final int MOST_MOVES = 1002 * Program.CODE_ROOM;

        private final int[] stack = new int[STACK_ROOM];
        private final int[] held = new int[Program.SLOTS];
        private Program program;
        private Tape tape;
        private int top;
        private int at;

        int play(Program toPlay, Tape onto) {
            program = toPlay;
            tape = onto;
            top = 0;
            at = 0;
            for (int i = 0; i < held.length; i++) {
                held[i] = i < program.inputs ? i : tape.zeroAt();
            }
            for (int i = 0; i < MOST_MOVES && tape.state == Tape.GOING; i++) {
                int what = program.whatAt(at);
                int argument = program.argumentAt(at);
                at++;
                if (what == NONE) {
                    tape.state = Tape.WHOLE;
                } else if (what <= Program.GIVE) {
                    moveData(what, argument);
                } else if (what <= Program.LIKE) {
                    step(what);
                } else {
                    decide(what, argument);
                }
            }
            return tape.state;
        }

        private void moveData(int what, int argument) {
            switch (what) {
                case Program.NUMBER:
                    push(tape.numberAt(argument));
                    break;
                case Program.LOAD:
                    load(argument);
                    break;
                case Program.LOAD_ROW:
                    load(slotInRow(argument));
                    break;
                case Program.STORE:
                    store(argument);
                    break;
                case Program.STORE_ROW:
                    store(slotInRow(argument));
                    break;
                default:
                    if (!tape.giveOut(pop())) {
                        tape.state = Tape.STUCK;
                    }
                    break;
            }
        }

        private void load(int slot) {
            if (slot < 0 || slot >= held.length) {
                tape.state = Tape.STUCK;
            } else {
                push(held[slot]);
            }
        }

        private void store(int slot) {
            if (slot < 0 || slot >= held.length) {
                tape.state = Tape.STUCK;
            } else {
                held[slot] = pop();
            }
        }

        private int slotInRow(int row) {
            long index = tape.valueAt(pop());
            long number = Fractions.above(index);
            if (row < 0 || row >= program.rows || Fractions.below(index) != 1) {
                return NONE;
            }
            if (number < 0 || number >= program.places[row]) {
                return NONE;
            }
            return Program.FIRST_ROW_SLOT + row * Program.MOST_PLACES + (int) number;
        }

        private void step(int what) {
            if (tape.steps >= Tape.MOST_STEPS) {
                tape.state = Tape.LONG;
            } else if (what <= Program.OVER) {
                reckon(what);
            } else if (what == Program.ABS) {
                dropSign();
            } else if (what <= Program.MAX) {
                choose(what);
            } else {
                compare(what);
            }
        }

        private void reckon(int what) {
            int b = pop();
            int a = pop();
            long worth = worked(what, tape.valueAt(a), tape.valueAt(b));
            if (worth == Fractions.STUCK) {
                tape.state = Tape.STUCK;
            } else {
                push(tape.lay(what, a, b, worth));
            }
        }

        private static long worked(int what, long x, long y) {
            switch (what) {
                case Program.PLUS:
                    return Fractions.plus(x, y);
                case Program.MINUS:
                    return Fractions.minus(x, y);
                case Program.TIMES:
                    return Fractions.times(x, y);
                default:
                    return Fractions.over(x, y);
            }
        }

        private void dropSign() {
            int a = pop();
            long x = tape.valueAt(a);
            tape.meet(x, Fractions.ZERO);
            int kind = Fractions.above(x) < 0 ? Tape.TURNED : Tape.KEPT;
            push(tape.lay(kind, a, a, Fractions.withoutSign(x)));
        }

        private void choose(int what) {
            int b = pop();
            int a = pop();
            long x = tape.valueAt(a);
            long y = tape.valueAt(b);
            tape.meet(x, y);
            int order = Fractions.compare(x, y);
            boolean second = what == Program.MIN ? order > 0 : order < 0;
            int one = second ? b : a;
            push(tape.lay(Tape.KEPT, one, one, second ? y : x));
        }

        private void compare(int what) {
            long y = tape.valueAt(pop());
            long x = tape.valueAt(pop());
            tape.meet(x, y);
            tape.steps++;
            int order = Fractions.compare(x, y);
            switch (what) {
                case Program.LESS:
                    pushFact(order < 0);
                    break;
                case Program.MORE:
                    pushFact(order > 0);
                    break;
                default:
                    pushFact(order == 0);
                    break;
            }
        }

        private void decide(int what, int argument) {
            switch (what) {
                case Program.NOT:
                    push(1 - pop());
                    break;
                case Program.AND:
                    push(pop() & pop());
                    break;
                case Program.OR:
                    push(pop() | pop());
                    break;
                case Program.UNLESS:
                    if (pop() == 0) {
                        at = argument;
                    }
                    break;
                default:
                    at = argument;
                    break;
            }
        }

        private void pushFact(boolean fact) {
            push(fact ? 1 : 0);
        }

        private void push(int x) {
            if (top < STACK_ROOM) {
                stack[top] = x;
                top++;
            }
        }

        private int pop() {
            if (top <= 0) {
                return 0;
            }
            top--;
            return stack[top];
        }
    }

    /**
     * Slopes, movers and ways, worked out from a tape in rows that are kept between calls. The rows
     * are as long as a tape, and no step goes on the tape but with a left and a right that stand
     * there ahead of it: so what is a place on the tape is one in each row, too.
     */
    private static final class Slopes {
        private static final int MOST_WAYS = 1000000000;

        private final long[] fromOne = new long[Tape.ROOM];
        private final long[] fromOther = new long[Tape.ROOM];
        private final long[] fromBoth = new long[Tape.ROOM];
        private final int[] count = new int[Tape.ROOM];
        private final boolean[] hangs = new boolean[Tape.ROOM];

        long slopeForward(Tape tape, int r, int input) {
            int last = tape.resultAt(r);
            markHanging(tape, last);
            fillSlopes(tape, last, input, fromOne);
            return fromOne[last];
        }

        long slopeTwice(Tape tape, int r, int i, int j) {
            int last = tape.resultAt(r);
            markHanging(tape, last);
            fillSlopes(tape, last, i, fromOne);
            fillSlopes(tape, last, j, fromOther);
            for (int k = 0; k <= last; k++) {
                if (k < tape.firstStep) {
                    fromBoth[k] = Fractions.ZERO;
                } else if (hangs[k]) {
                    fromBoth[k] = hasBothSlopes(k) ? twiceAt(tape, k) : Fractions.STUCK;
                }
            }
            return fromBoth[last];
        }

        long slopeBackward(Tape tape, int r, int input) {
            int last = tape.resultAt(r);
            long[] share = fromOne;
            for (int k = 0; k <= last; k++) {
                share[k] = k == last ? Fractions.ONE : Fractions.ZERO;
            }
            for (int k = last; k >= tape.firstStep; k--) {
                if (share[k] != Fractions.ZERO && !handBack(tape, k, share)) {
                    return Fractions.STUCK;
                }
            }
            return input <= last ? share[input] : Fractions.ZERO;
        }

        int moverBits(Tape tape, int r) {
            int last = tape.resultAt(r);
            for (int k = 0; k <= last; k++) {
                if (k < tape.firstStep) {
                    count[k] = k < tape.inputs ? 1 << k : 0;
                } else {
                    count[k] = count[tape.left[k]] | count[tape.right[k]];
                }
            }
            return count[last];
        }

        int countWays(Tape tape, int r, int input) {
            int last = tape.resultAt(r);
            for (int k = 0; k <= last; k++) {
                if (k < tape.firstStep) {
                    count[k] = k == input ? 1 : 0;
                } else if (tape.kind[k] == Tape.KEPT || tape.kind[k] == Tape.TURNED) {
                    count[k] = count[tape.left[k]];
                } else {
                    count[k] = Math.min(MOST_WAYS, count[tape.left[k]] + count[tape.right[k]]);
                }
            }
            return count[last];
        }

        /** Each step is worked with its two slopes, though a sum needs neither of them for itself. */
        private boolean hasBothSlopes(int k) {
            return fromOne[k] != Fractions.STUCK && fromOther[k] != Fractions.STUCK;
        }

        private void markHanging(Tape tape, int last) {
            for (int k = 0; k <= last; k++) {
                hangs[k] = k == last;
            }
            for (int k = last; k >= tape.firstStep; k--) {
                if (hangs[k]) {
                    hangs[tape.left[k]] = true;
                    hangs[tape.right[k]] = true;
                }
            }
        }

        private void fillSlopes(Tape tape, int last, int input, long[] slope) {
            for (int k = 0; k <= last; k++) {
                if (k < tape.firstStep) {
                    slope[k] = k == input ? Fractions.ONE : Fractions.ZERO;
                } else if (hangs[k]) {
                    slope[k] = slopeAt(tape, k, slope);
                }
            }
        }

        private static long slopeAt(Tape tape, int k, long[] slope) {
            long a = tape.value[tape.left[k]];
            long b = tape.value[tape.right[k]];
            long p = slope[tape.left[k]];
            long q = slope[tape.right[k]];
            switch (tape.kind[k]) {
                case Program.PLUS:
                    return Fractions.plus(p, q);
                case Program.MINUS:
                    return Fractions.minus(p, q);
                case Program.TIMES:
                    return Fractions.plus(Fractions.times(p, b), Fractions.times(a, q));
                case Program.OVER:
                    long rest = Fractions.minus(p, Fractions.times(tape.value[k], q));
                    return Fractions.over(rest, b);
                case Tape.TURNED:
                    return Fractions.turned(p);
                default:
                    return p;
            }
        }

        private long twiceAt(Tape tape, int k) {
            long t = fromBoth[tape.left[k]];
            long w = fromBoth[tape.right[k]];
            switch (tape.kind[k]) {
                case Program.PLUS:
                    return Fractions.plus(t, w);
                case Program.MINUS:
                    return Fractions.minus(t, w);
                case Program.TIMES:
                    return twiceOfProduct(tape, k);
                case Program.OVER:
                    return twiceOfQuotient(tape, k);
                case Tape.TURNED:
                    return Fractions.turned(t);
                default:
                    return t;
            }
        }

        private long twiceOfProduct(Tape tape, int k) {
            int a = tape.left[k];
            int b = tape.right[k];
            long tb = Fractions.times(fromBoth[a], tape.value[b]);
            long pu = Fractions.times(fromOne[a], fromOther[b]);
            long rq = Fractions.times(fromOther[a], fromOne[b]);
            long aw = Fractions.times(tape.value[a], fromBoth[b]);
            return Fractions.plus(Fractions.plus(tb, pu), Fractions.plus(rq, aw));
        }

        private long twiceOfQuotient(Tape tape, int k) {
            int a = tape.left[k];
            int b = tape.right[k];
            long ku = Fractions.times(fromOne[k], fromOther[b]);
            long mq = Fractions.times(fromOther[k], fromOne[b]);
            long vw = Fractions.times(tape.value[k], fromBoth[b]);
            long rest = Fractions.minus(Fractions.minus(fromBoth[a], ku), mq);
            return Fractions.over(Fractions.minus(rest, vw), tape.value[b]);
        }

        private static boolean handBack(Tape tape, int k, long[] share) {
            long s = share[k];
            int a = tape.left[k];
            int b = tape.right[k];
            switch (tape.kind[k]) {
                case Program.PLUS:
                    return addShare(share, a, s) && addShare(share, b, s);
                case Program.MINUS:
                    return addShare(share, a, s) && addShare(share, b, Fractions.turned(s));
                case Program.TIMES:
                    return addShare(share, a, Fractions.times(s, tape.value[b]))
                            && addShare(share, b, Fractions.times(tape.value[a], s));
                case Program.OVER:
                    long part = Fractions.over(s, tape.value[b]);
                    long lost = Fractions.turned(Fractions.times(tape.value[k], part));
                    return addShare(share, a, part) && addShare(share, b, lost);
                case Tape.TURNED:
                    return addShare(share, a, Fractions.turned(s));
                default:
                    return addShare(share, a, s);
            }
        }

        private static boolean addShare(long[] share, int to, long more) {
            share[to] = Fractions.plus(share[to], more);
            return share[to] != Fractions.STUCK;
        }
    }

    /** Groups of inputs of which no two move one result. */
    private static final class Grouping {
        private final int[] group = new int[Program.MOST_INPUTS];
        private final int[] apart = new int[Program.MOST_INPUTS];
        private int inputs;

        void forget() {
            inputs = 0;
        }

        void begin(int count) {
            inputs = count >= 0 && count <= Program.MOST_INPUTS ? count : 0;
            for (int i = 0; i < apart.length; i++) {
                apart[i] = 0;
            }
        }

        void keepApart(int movers) {
            for (int i = 0; i < inputs; i++) {
                if ((movers >> i & 1) != 0) {
                    apart[i] |= movers;
                }
            }
        }

        /** With few groups first, the first way that is found has the fewest. */
        int settle() {
            for (int most = 0; most < inputs; most++) {
                if (fits(0, 0, most)) {
                    return most;
                }
            }
            for (int i = 0; i < inputs; i++) {
                group[i] = i;
            }
            return inputs;
        }

        int groupOf(int input) {
            return input >= 0 && input < inputs ? group[input] : NONE;
        }

        /** Lesser numbers are tried first, so the first way found is the one that is asked for. */
        private boolean fits(int input, int used, int most) {
            if (input >= inputs) {
                return true;
            }
            for (int g = 0; g <= used && g < most; g++) {
                if (!isFree(input, g)) {
                    continue;
                }
                group[input] = g;
                if (fits(input + 1, g == used ? used + 1 : used, most)) {
                    return true;
                }
            }
            return false;
        }

        private boolean isFree(int input, int g) {
            for (int i = 0; i < input; i++) {
                if (group[i] == g && (apart[input] >> i & 1) != 0) {
                    return false;
                }
            }
            return true;
        }
    }

    /** How few rounds of a loop are run again with so many keepers, for all that can be asked. */
    private static final class Keepers {
        private static final int MOST_ROUNDS = 100;
        private static final int MOST_KEEPERS = 10;
        private static final int MORE_THAN_ANY = 1000000;

        private final int[][] least = new int[MOST_KEEPERS + 1][MOST_ROUNDS + 1];
        private final int[][] firstAt = new int[MOST_KEEPERS + 1][MOST_ROUNDS + 1];
        private boolean filled;

        int roundsAgain(int n, int k) {
            if (!canBe(n, k)) {
                return NONE;
            }
            fill();
            return least[k][n];
        }

        int firstKept(int n, int k) {
            if (!canBe(n, k) || n == 1 || k == 1) {
                return NONE;
            }
            fill();
            return firstAt[k][n];
        }

        private static boolean canBe(int n, int k) {
            return n >= 1 && n <= MOST_ROUNDS && k >= 1 && k <= MOST_KEEPERS;
        }

        private void fill() {
            if (filled) {
                return;
            }
            for (int n = 1; n <= MOST_ROUNDS; n++) {
                least[1][n] = n * (n - 1) / 2;
            }
            for (int k = 2; k <= MOST_KEEPERS; k++) {
                for (int n = 2; n <= MOST_ROUNDS; n++) {
                    fillOne(n, k);
                }
            }
            filled = true;
        }

        private void fillOne(int n, int k) {
            least[k][n] = MORE_THAN_ANY;
            for (int m = 1; m < n; m++) {
                int cost = m + least[k][m] + least[k - 1][n - m];
                if (cost < least[k][n]) {
                    least[k][n] = cost;
                    firstAt[k][n] = m;
                }
            }
        }
    }
}
