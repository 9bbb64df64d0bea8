import java.util.Arrays;
import java.util.NoSuchElementException;

/** A house that wires components; the document ../shared/DOC.md tells what each call promises. */
public final class WiringHouse {
    public static final int NONE = -1;

    private static final int TAPE_SIGNS = 4000;
    private static final int TYPES = 24;
    private static final int SETTINGS = 12;
    private static final int COMPONENTS = 24;
    private static final int METHODS = 20;
    private static final int CALLED_WORDS = 20;
    private static final int WRAPS = 12;
    private static final int AROUNDS_OF_A_METHOD = 2;
    private static final int LISTED_TYPES = 6;
    private static final int NEEDS = 8;
    private static final int PARTS_WITHIN = 8;
    private static final int FAULTS_TOLD = 100;
    private static final int SCOPES = 40;
    private static final int OBJECTS = 300;
    private static final int THINGS_TOLD = 100;
    private static final int LEVELS = 10;
    private static final int STEPS_OF_A_CALL = 3000;
    private static final int STEPS_IN_ALL = 60000;
    private static final int ANY_NUMBER = 999999999;

    // What a SCOPE, a need and a PHASE of the text are told by; the PHASES are also what did() tells.
    private static final int HOUSE = 0;
    private static final int DAY = 1;
    private static final int MEAL = 2;
    private static final int NEW = 3;
    private static final int PLAIN = 0;
    private static final int LATE = 1;
    private static final int ALL = 2;
    private static final int BEFORE = 0;
    private static final int AROUND = 1;
    private static final int AFTER = 2;
    private static final int FAILING = 3;
    private static final int THE_METHOD = 4;

    private static final int MISSING = 1;
    private static final int DOUBLED = 2;
    private static final int CYCLE = 3;
    private static final int SHORT = 4;

    private static final int NO_METHOD = 11;
    private static final int UNDER_WAY = 12;
    private static final int TOO_DEEP = 13;
    private static final int NO_PLACE = 14;
    private static final int IS_SPOILED = 15;
    private static final int TOO_MANY = 16;
    private static final int WENT = 17;
    private static final int SPENT_CLOSING = 18;
    private static final int FROM_A_NEED = 20;

    private static final int BEING_MADE = 0;
    private static final int MADE = 1;
    private static final int GONE = 2;

    private static final int WELL = 0;
    private static final int FAILURE = 1;
    private static final int NO_SCOPE = 3;
    private static final int NO_SUCH = 4;
    private static final int ALL_SPENT = 6;

    // The orders that an E is turned into; from PUT on they have a number with them.
    private static final int END_OF_E = 0;
    private static final int STEP = 1;
    private static final int PUT_ARG = 2;
    private static final int NEGATE = 3;
    private static final int GO_INSIDE = 4;
    private static final int ADD = 5;
    private static final int SUBTRACT = 6;
    private static final int MULTIPLY = 7;
    private static final int LESS = 8;
    private static final int EQUAL = 9;
    private static final int PUT = 10;
    private static final int PUT_SETTING = 11;
    private static final int FAIL = 12;
    private static final int UNLESS = 13;
    private static final int JUMP = 14;
    private static final int CALL_NEED = 15;

    private final Tape tape;
    private final BookReader reader;
    private final Checker checker;
    private final Stock stock;
    private final Notes notes;
    private final Machine machine;
    private Book shelf;
    private Book spare;
    private boolean ready;
    private int ending;

    public WiringHouse() {
        tape = new Tape();
        reader = new BookReader(tape);
        checker = new Checker();
        stock = new Stock();
        notes = new Notes();
        shelf = new Book();
        spare = new Book();
        machine = new Machine(shelf, stock, notes);
    }

    public int feed(long a, long b, long c) {
        tape.append(a);
        tape.append(b);
        tape.append(c);
        return tape.length;
    }

    public int book() {
        int fault = reader.read(spare);
        tape.empty();
        if (fault != 0) {
            return fault;
        }
        Book old = shelf;
        shelf = spare;
        spare = old;
        stock.clear();
        notes.clear();
        checker.clear();
        machine.takeBook(shelf);
        ready = false;
        ending = WELL;
        return 0;
    }

    public int named(int sort) {
        tape.begin();
        boolean isWord = tape.kind == Tape.NAME;
        long word = tape.value;
        tape.next();
        boolean isAlone = tape.kind == Tape.END;
        tape.empty();
        return isWord && isAlone ? shelf.numberOf(word, sort) : NONE;
    }

    public boolean setting(int k, int v) {
        if (ready || k < 0 || k >= shelf.settings.size) {
            return false;
        }
        shelf.settingValues[k] = v;
        return true;
    }

    public int check() {
        int faults = checker.examine(shelf);
        ready = faults == 0;
        return faults;
    }

    public int fault(int i, int what) {
        return checker.tell(i, what);
    }

    public int cycle(int i, int k) {
        return checker.onRing(i, k);
    }

    public int component(int c, int what) throws NoSuchElementException {
        if (!shelf.has(c)) {
            throw new NoSuchElementException("no such component");
        }
        Component asked = shelf.components[c];
        switch (what) {
            case 0: return asked.scope;
            case 1: return asked.rank;
            case 2: return shelf.isThere(c) ? 1 : 0;
            case 3: return asked.needs;
            case 4: return asked.calledWord;
            default: throw new NoSuchElementException("no such thing is told of a component");
        }
    }

    public int candidate(int c, int need, int i) {
        if (!shelf.has(c) || need < 0 || need >= shelf.components[c].needs || i < 0) {
            return NONE;
        }
        int left = shelf.candidates(c, need);
        for (int k = 0; k < i && left != 0; k++) {
            left &= left - 1;
        }
        return left == 0 ? NONE : Integer.numberOfTrailingZeros(left);
    }

    public int day() {
        return ready ? stock.open(DAY, 0) : NONE;
    }

    public int meal(int day) {
        boolean isDay = stock.isOpen(day) && stock.scopeKinds[day] == DAY;
        return ready && isDay ? stock.open(MEAL, day) : NONE;
    }

    public int get(int scope, int component) {
        notes.noteCause(0, 0);
        machine.restart();
        if (!ready) {
            return ends(NO_SUCH, NONE);
        }
        if (!stock.isOpen(scope)) {
            return ends(NO_SCOPE, NONE);
        }
        if (!shelf.has(component) || !shelf.isThere(component)) {
            return ends(NO_SUCH, NONE);
        }
        machine.pushRoot(component, scope, 0);
        machine.run();
        return ends(machine.howItEnded(), machine.answerOr(NONE));
    }

    public int call(int scope, int object, int method, int arg) {
        notes.noteCause(0, 0);
        notes.forgetThings();
        machine.restart();
        if (!stock.isOpen(scope)) {
            return ends(NO_SCOPE, 0);
        }
        if (!stock.isMade(object) || method < 0 || method >= shelf.methods.size) {
            return ends(NO_SUCH, 0);
        }
        notes.listening = true;
        machine.pushCall(object, scope, method, arg, 1);
        machine.run();
        notes.listening = false;
        return ends(machine.howItEnded(), machine.answerOr(0));
    }

    public int close(int scope) {
        machine.restart();
        if (!stock.isOpen(scope)) {
            return ends(NO_SCOPE, NONE);
        }
        boolean isSpent = false;
        int closings = 0;
        for (int turn = 0; turn < OBJECTS + SCOPES && stock.isOpen(scope); turn++) {
            int inner = stock.innermost(scope);
            int object = stock.latestMade(inner);
            if (object != NONE) {
                machine.pushClose(object, 0);
                machine.run();
                isSpent |= machine.isSpent();
                closings++;
            } else {
                stock.shut(inner);
            }
        }
        stock.reopenHouse();
        return isSpent ? ends(ALL_SPENT, NONE) : ends(WELL, closings);
    }

    public int outcome() {
        return ending;
    }

    public int cause(int i) {
        return notes.kindOfCause(i);
    }

    public int object(int o, int what) throws NoSuchElementException {
        if (!stock.has(o)) {
            throw new NoSuchElementException("no such object");
        }
        switch (what) {
            case 0: return stock.components[o];
            case 1: return stock.places[o];
            case 2: return stock.states[o];
            default: throw new NoSuchElementException("no such thing is told of an object");
        }
    }

    public int joined(int o, int need, int i) {
        return stock.joinedTo(o, need, i);
    }

    public int closed(int i, int what) {
        return notes.ofClosing(i, what);
    }

    public int spoiled(int scope, int component) {
        if (!stock.isOpen(scope) || !shelf.has(component)) {
            return NONE;
        }
        int place = stock.placeOf(shelf.components[component].scope, scope);
        return place != NONE && stock.isSpoiled(place, component) ? 1 : 0;
    }

    public int did(int i, int what) {
        return notes.ofThing(i, what);
    }

    public int count(int what) {
        switch (what) {
            case 0: return shelf.types.size;
            case 1: return shelf.settings.size;
            case 2: return shelf.names.size;
            case 3: return shelf.methods.size;
            case 4: return shelf.wrapCount;
            case 5: return stock.openScopes();
            case 6: return stock.objectCount;
            case 7: return stock.madeObjects();
            case 8: return ready ? 1 : 0;
            case 9: return machine.stepsInAll;
            case 10: return machine.stepsNow;
            case 11: return checker.faults;
            case 12: return tape.length;
            default: return NONE;
        }
    }

    private int ends(int how, int answer) {
        ending = how;
        return answer;
    }

    /** Words in the order in which they first came. */
    private static final class Names {
        private final long[] words;
        private int size;

        Names(int most) {
            words = new long[most > 0 ? most : 0];
        }

        int find(long word) {
            for (int i = 0; i < size; i++) {
                if (words[i] == word) {
                    return i;
                }
            }
            return NONE;
        }

        boolean isFull() {
            return size >= words.length;
        }

        int add(long word) {
            if (size >= words.length) {
                return NONE;
            }
            words[size] = word;
            return size++;
        }
    }

    /** The TAPE, its TOKENS once it is read, and the one that is being looked at. */
    private static final class Tape {
        static final int END = 0;
        static final int BAD = 1;
        static final int NUMBER = 2;
        static final int NAME = 3;
        // A sign's kind is the sign itself; those of keywords lie above all signs.
        static final int FIRST_KEYWORD = 128;
        static final int TYPE = 128;
        static final int LIKE = 129;
        static final int SETTING = 130;
        static final int COMPONENT = 131;
        static final int IS = 132;
        static final int CALLED = 133;
        static final int RANK = 134;
        static final int WHEN = 135;
        static final int WRAP = 136;
        static final int NEED = 137;
        static final int LATE_WORD = 138;
        static final int ALL_WORD = 139;
        static final int OPENED = 140;
        static final int CLOSED = 141;
        static final int METHOD = 142;
        static final int ARG = 143;
        static final int FAIL_WORD = 144;
        static final int PICK = 145;
        static final int OF = 146;
        static final int GO = 147;
        static final int FIRST_SCOPE = 148;
        static final int LAST_SCOPE = 151;
        static final int FIRST_PHASE = 152;
        static final int LAST_PHASE = 155;
        private static final int KEYWORDS = 28;
        private static final String KEYWORD_TEXT = "type like setting component is called rank when wrap need late all opened closed method arg fail pick of go house day meal new before around after failing ";
        private static final String SIGNS = "{}(),;=<+-*.";
        private static final int WORD_LENGTH = 12;
        private static final int NUMBER_LENGTH = 9;

        private final byte[] signs = new byte[TAPE_SIGNS];
        private final long[] keywords = new long[KEYWORDS];
        private final int[] kinds = new int[TAPE_SIGNS + 1];
        private final int[] starts = new int[TAPE_SIGNS + 1];
        private final long[] values = new long[TAPE_SIGNS + 1];
        private int length;
        private int position;
        private int tokens;
        private int looking;
        private int kind;
        private int start;
        private long value;

        Tape() {
            int k = 0;
            for (int i = 0; i < KEYWORD_TEXT.length() && k < KEYWORDS; i++) {
                char sign = KEYWORD_TEXT.charAt(i);
                if (sign == ' ') {
                    k++;
                } else {
                    keywords[k] = keywords[k] * 37 + codeOf(sign);
                }
            }
        }

        void append(long eight) {
            for (int shift = 56; shift >= 0; shift -= 8) {
                int sign = (int) (eight >>> shift) & 255;
                boolean isKnown = sign == 10 || sign >= 32 && sign <= 126;
                if (isKnown && length < TAPE_SIGNS) {
                    signs[length++] = (byte) sign;
                }
            }
        }

        void empty() {
            length = 0;
        }

        void begin() {
            position = 0;
            tokens = 0;
            for (int i = 0; i < TAPE_SIGNS && position < length; i++) {
                if (signs[position] == 32 || signs[position] == 10) {
                    position++;
                } else {
                    cut();
                }
            }
            kinds[tokens] = END;
            starts[tokens] = length;
            values[tokens] = 0;
            looking = 0;
            next();
        }

        void next() {
            kind = kinds[looking];
            start = starts[looking];
            value = values[looking];
            if (looking < tokens) {
                looking++;
            }
        }

        /** The TOKEN that begins here; it takes one sign at least, so there are no more than signs. */
        private void cut() {
            int sign = signs[position];
            starts[tokens] = position;
            values[tokens] = 0;
            if (isDigit(sign)) {
                cutNumber();
            } else if (isLetter(sign)) {
                cutWord();
            } else {
                kinds[tokens] = SIGNS.indexOf((char) sign) >= 0 ? sign : BAD;
                position++;
            }
            tokens++;
        }

        private void cutNumber() {
            int digits = 0;
            long number = 0;
            while (position < length && isDigit(signs[position])) {
                number = digits < NUMBER_LENGTH ? number * 10 + signs[position] - '0' : 0;
                digits++;
                position++;
            }
            kinds[tokens] = digits > NUMBER_LENGTH ? BAD : NUMBER;
            values[tokens] = number;
        }

        private void cutWord() {
            int letters = 0;
            long word = 0;
            while (position < length && (isLetter(signs[position]) || isDigit(signs[position]))) {
                word = letters < WORD_LENGTH ? word * 37 + codeOf(signs[position]) : 0;
                letters++;
                position++;
            }
            kinds[tokens] = letters > WORD_LENGTH ? BAD : kindOf(word);
            values[tokens] = word;
        }

        private int kindOf(long word) {
            for (int k = 0; k < KEYWORDS; k++) {
                if (keywords[k] == word) {
                    return FIRST_KEYWORD + k;
                }
            }
            return NAME;
        }

        // No code is 0, so that words of different lengths differ: 12 signs fit into a long.
        private static int codeOf(int sign) {
            return isDigit(sign) ? sign - '0' + 27 : sign - 'a' + 1;
        }

        private static boolean isDigit(int sign) {
            return sign >= '0' && sign <= '9';
        }

        private static boolean isLetter(int sign) {
            return sign >= 'a' && sign <= 'z';
        }
    }

    /** A component as the BOOK tells it; its E's are places in the BOOK's code. */
    private static final class Component {
        private final int[] needTypes = new int[NEEDS];
        private final int[] needWords = new int[NEEDS];
        private final int[] needKinds = new int[NEEDS];
        private final int[] methodStarts = new int[METHODS];
        private int needs;
        private int under;
        private int scope;
        private int calledWord;
        private int rank;
        private int whenSetting;
        private int whenValue;
        private int openedStart;
        private int closedStart;

        void clear() {
            Arrays.fill(methodStarts, NONE);
            needs = 0;
            under = 0;
            scope = HOUSE;
            calledWord = NONE;
            rank = 0;
            whenSetting = NONE;
            whenValue = 0;
            openedStart = NONE;
            closedStart = NONE;
        }

        void addNeed(int kind, int type, int word) {
            if (needs < NEEDS) {
                needKinds[needs] = kind;
                needTypes[needs] = type;
                needWords[needs] = word;
                needs++;
            }
        }
    }

    private static final class Wrap {
        private int type;
        private int method;
        private int number;
        private int phase;
        private int start;
    }

    /** What a text has told; sets of types and of components are bits of an int. */
    private static final class Book {
        // An E has at most two orders for each sign of its text, and one for its end.
        private static final int CODE = 2 * TAPE_SIGNS + 200;

        private final Names types = new Names(TYPES);
        private final Names settings = new Names(SETTINGS);
        private final Names names = new Names(COMPONENTS);
        private final Names methods = new Names(METHODS);
        private final Names words = new Names(CALLED_WORDS);
        private final int[] typeUnder = new int[TYPES];
        private final int[] settingValues = new int[SETTINGS];
        private final Component[] components = new Component[COMPONENTS];
        private final Wrap[] wraps = new Wrap[WRAPS];
        private final int[] wrapOrder = new int[WRAPS];
        private final int[] code = new int[CODE];
        private int wrapCount;
        private int codeLength;

        Book() {
            for (int c = 0; c < COMPONENTS; c++) {
                components[c] = new Component();
            }
            for (int w = 0; w < WRAPS; w++) {
                wraps[w] = new Wrap();
            }
        }

        void clear() {
            types.size = 0;
            settings.size = 0;
            names.size = 0;
            methods.size = 0;
            words.size = 0;
            wrapCount = 0;
            codeLength = 0;
        }

        int numberOf(long word, int sort) {
            switch (sort) {
                case 0: return types.find(word);
                case 1: return settings.find(word);
                case 2: return names.find(word);
                case 3: return methods.find(word);
                case 4: return words.find(word);
                default: return NONE;
            }
        }

        boolean isTold(long word) {
            return types.find(word) != NONE || settings.find(word) != NONE || names.find(word) != NONE;
        }

        boolean has(int c) {
            return c >= 0 && c < names.size;
        }

        boolean isThere(int c) {
            Component asked = components[c];
            return asked.whenSetting == NONE || settingValues[asked.whenSetting] == asked.whenValue;
        }

        int candidates(int c, int need) {
            Component needing = components[c];
            int kind = needing.needKinds[need];
            int type = needing.needTypes[need];
            int word = needing.needWords[need];
            int found = 0;
            int greatest = 0;
            for (int k = 0; k < names.size; k++) {
                Component other = components[k];
                boolean isCalledSo = word == NONE || other.calledWord == word;
                if ((other.under >> type & 1) == 0 || !isCalledSo || !isThere(k)) {
                    continue;
                }
                if (kind != ALL && other.rank > greatest) {
                    greatest = other.rank;
                    found = 0;
                }
                if (kind == ALL || other.rank == greatest) {
                    found |= 1 << k;
                }
            }
            return found;
        }

        int firstCandidate(int c, int need) {
            int found = candidates(c, need);
            return found == 0 ? NONE : Integer.numberOfTrailingZeros(found);
        }

        void addWrap(int type, int method, int number, int phase, int start) {
            if (wrapCount >= WRAPS) {
                return;
            }
            Wrap added = wraps[wrapCount];
            added.type = type;
            added.method = method;
            added.number = number;
            added.phase = phase;
            added.start = start;
            int at = wrapCount;
            while (at > 0 && wraps[wrapOrder[at - 1]].number > number) {
                wrapOrder[at] = wrapOrder[at - 1];
                at--;
            }
            wrapOrder[at] = wrapCount;
            wrapCount++;
        }

        int aroundsOf(int method) {
            int sum = 0;
            for (int w = 0; w < wrapCount; w++) {
                if (wraps[w].phase == AROUND && wraps[w].method == method) {
                    sum++;
                }
            }
            return sum;
        }

        /** The place in the order, from a place on, of a wrap of that PHASE for that component's METHOD. */
        int wrapFrom(int place, int phase, int c, int method) {
            for (int at = place; at < wrapCount; at++) {
                if (isFor(wraps[wrapOrder[at]], phase, c, method)) {
                    return at;
                }
            }
            return NONE;
        }

        int wrapBackFrom(int place, int phase, int c, int method) {
            for (int at = place; at >= 0; at--) {
                if (isFor(wraps[wrapOrder[at]], phase, c, method)) {
                    return at;
                }
            }
            return NONE;
        }

        private boolean isFor(Wrap wrap, int phase, int c, int method) {
            return wrap.phase == phase && wrap.method == method && (components[c].under >> wrap.type & 1) != 0;
        }

        void emit(int order) {
            if (codeLength < CODE) {
                code[codeLength++] = order;
            }
        }

        void patch(int at, int order) {
            if (at >= 0 && at < CODE) {
                code[at] = order;
            }
        }
    }

    /** Reads the TAPE into a Book; every reading method answers false when it has noted a FAULT. */
    private static final class BookReader {
        private static final int IN_COMPONENT = 0;
        private static final int IN_WRAP = 1;
        private static final int IN_AROUND = 2;

        private final Tape tape;
        private Book book;
        private Component owner;
        private int fault;
        private int where;
        // What the latest name, list or number that was read has told.
        private long word;
        private int found;
        private int under;
        private int number;

        BookReader(Tape tape) {
            this.tape = tape;
        }

        int read(Book target) {
            book = target;
            book.clear();
            owner = null;
            fault = 0;
            tape.begin();
            for (int i = 0; i < TAPE_SIGNS && tape.kind != Tape.END; i++) {
                boolean isWell = owner == null ? readStatement() : readMember();
                if (!isWell) {
                    return fault;
                }
            }
            if (owner != null) {
                wrong(1);
            }
            return fault;
        }

        private boolean readStatement() {
            switch (tape.kind) {
                case Tape.TYPE: return readType();
                case Tape.SETTING: return readSetting();
                case Tape.COMPONENT: return readComponent();
                case Tape.WRAP: return readWrap();
                default: return wrong(1);
            }
        }

        private boolean readType() {
            if (book.types.isFull()) {
                return wrong(5);
            }
            tape.next();
            if (!takeNewName()) {
                return false;
            }
            long name = word;
            under = 0;
            if (tape.kind == Tape.LIKE) {
                tape.next();
                if (!takeTypes()) {
                    return false;
                }
            }
            if (!take(';')) {
                return false;
            }
            int t = book.types.add(name);
            if (t != NONE) {
                book.typeUnder[t] = under | 1 << t;
            }
            return true;
        }

        private boolean readSetting() {
            if (book.settings.isFull()) {
                return wrong(5);
            }
            tape.next();
            if (!takeNewName()) {
                return false;
            }
            long name = word;
            if (!takeNumber(0, ANY_NUMBER) || !take(';')) {
                return false;
            }
            int k = book.settings.add(name);
            if (k != NONE) {
                book.settingValues[k] = number;
            }
            return true;
        }

        private boolean readComponent() {
            if (book.names.isFull()) {
                return wrong(5);
            }
            tape.next();
            if (!takeNewName()) {
                return false;
            }
            long name = word;
            if (!take(Tape.IS) || !takeTypes()) {
                return false;
            }
            if (tape.kind < Tape.FIRST_SCOPE || tape.kind > Tape.LAST_SCOPE) {
                return wrong(1);
            }
            Component told = book.components[book.names.size];
            told.clear();
            told.under = under;
            told.scope = tape.kind - Tape.FIRST_SCOPE;
            tape.next();
            if (!readExtras(told) || !take('{')) {
                return false;
            }
            book.names.add(name);
            owner = told;
            return true;
        }

        private boolean readExtras(Component told) {
            if (tape.kind == Tape.CALLED) {
                if (!takeCalled()) {
                    return false;
                }
                told.calledWord = found;
            }
            if (tape.kind == Tape.RANK) {
                tape.next();
                if (!takeNumber(0, 9)) {
                    return false;
                }
                told.rank = number;
            }
            if (tape.kind == Tape.WHEN) {
                tape.next();
                if (!takeSetting()) {
                    return false;
                }
                told.whenSetting = found;
                if (!takeNumber(0, ANY_NUMBER)) {
                    return false;
                }
                told.whenValue = number;
            }
            return true;
        }

        private boolean readWrap() {
            if (book.wrapCount >= WRAPS) {
                return wrong(5);
            }
            tape.next();
            if (!isToldType()) {
                return false;
            }
            int type = found;
            tape.next();
            if (!take('.') || !takeMethod(null)) {
                return false;
            }
            int method = found;
            if (!takeNumber(0, 99)) {
                return false;
            }
            int rising = number;
            if (tape.kind < Tape.FIRST_PHASE || tape.kind > Tape.LAST_PHASE) {
                return wrong(1);
            }
            int phase = tape.kind - Tape.FIRST_PHASE;
            if (phase == AROUND && book.aroundsOf(method) >= AROUNDS_OF_A_METHOD) {
                return wrong(5);
            }
            int start = book.codeLength;
            tape.next();
            if (!readE(phase == AROUND ? IN_AROUND : IN_WRAP)) {
                return false;
            }
            book.addWrap(type, method, rising, phase, start);
            return true;
        }

        private boolean readMember() {
            int start = book.codeLength;
            switch (tape.kind) {
                case '}':
                    owner = null;
                    tape.next();
                    return true;
                case Tape.NEED:
                    return readNeed();
                case Tape.OPENED:
                    if (owner.openedStart != NONE) {
                        return wrong(1);
                    }
                    owner.openedStart = start;
                    tape.next();
                    return readE(IN_COMPONENT);
                case Tape.CLOSED:
                    if (owner.closedStart != NONE) {
                        return wrong(1);
                    }
                    owner.closedStart = start;
                    tape.next();
                    return readE(IN_COMPONENT);
                case Tape.METHOD:
                    return readMethod();
                default:
                    return wrong(1);
            }
        }

        private boolean readNeed() {
            if (owner.needs >= NEEDS) {
                return wrong(5);
            }
            tape.next();
            int kind = tape.kind == Tape.LATE_WORD ? LATE : tape.kind == Tape.ALL_WORD ? ALL : PLAIN;
            if (kind != PLAIN) {
                tape.next();
            }
            if (!isToldType()) {
                return false;
            }
            int type = found;
            int calledSo = NONE;
            tape.next();
            if (kind != ALL && tape.kind == Tape.CALLED) {
                if (!takeCalled()) {
                    return false;
                }
                calledSo = found;
            }
            if (!take(';')) {
                return false;
            }
            owner.addNeed(kind, type, calledSo);
            return true;
        }

        private boolean readMethod() {
            int start = book.codeLength;
            tape.next();
            if (!takeMethod(owner)) {
                return false;
            }
            owner.methodStarts[found] = start;
            return readE(IN_COMPONENT);
        }

        /** An E, down to the sign behind it. */
        private boolean readE(int place) {
            where = place;
            if (!readExpression(0)) {
                return false;
            }
            book.emit(END_OF_E);
            return take(';');
        }

        private boolean readExpression(int depth) {
            if (!readSum(depth)) {
                return false;
            }
            int sign = tape.kind;
            if (sign != '<' && sign != '=') {
                return true;
            }
            tape.next();
            if (!readSum(depth)) {
                return false;
            }
            book.emit(sign == '<' ? LESS : EQUAL);
            return true;
        }

        private boolean readSum(int depth) {
            if (!readProduct(depth)) {
                return false;
            }
            for (int i = 0; i < TAPE_SIGNS && (tape.kind == '+' || tape.kind == '-'); i++) {
                int order = tape.kind == '+' ? ADD : SUBTRACT;
                tape.next();
                if (!readProduct(depth)) {
                    return false;
                }
                book.emit(order);
            }
            return true;
        }

        private boolean readProduct(int depth) {
            if (!readPart(depth)) {
                return false;
            }
            for (int i = 0; i < TAPE_SIGNS && tape.kind == '*'; i++) {
                tape.next();
                if (!readPart(depth)) {
                    return false;
                }
                book.emit(MULTIPLY);
            }
            return true;
        }

        private boolean readPart(int depth) {
            if (!beginsPart()) {
                return wrong(1);
            }
            if (depth >= PARTS_WITHIN) {
                return wrong(5);
            }
            int kind = tape.kind;
            long value = tape.value;
            book.emit(STEP);
            tape.next();
            switch (kind) {
                case Tape.NUMBER: return put(PUT, (int) value);
                case Tape.ARG: return putAlone(PUT_ARG);
                case '(': return readExpression(depth + 1) && take(')');
                case '-': return readPart(depth + 1) && putAlone(NEGATE);
                case Tape.FAIL_WORD: return takeNumber(1, 9) && put(FAIL, number);
                case Tape.SETTING: return takeSetting() && put(PUT_SETTING, found);
                case Tape.PICK: return readPick(depth);
                case Tape.OF: return readOf(depth);
                default: return readWithin(depth) && putAlone(GO_INSIDE);
            }
        }

        private boolean beginsPart() {
            switch (tape.kind) {
                case Tape.NUMBER:
                case Tape.ARG:
                case '(':
                case '-':
                case Tape.FAIL_WORD:
                case Tape.SETTING:
                case Tape.PICK:
                    return true;
                case Tape.OF:
                    return where == IN_COMPONENT;
                case Tape.GO:
                    return where == IN_AROUND;
                default:
                    return false;
            }
        }

        private boolean readWithin(int depth) {
            return take('(') && readExpression(depth + 1) && take(')');
        }

        private boolean readPick(int depth) {
            if (!take('(') || !readExpression(depth + 1) || !take(',')) {
                return false;
            }
            int unless = book.codeLength + 1;
            put(UNLESS, 0);
            if (!readExpression(depth + 1) || !take(',')) {
                return false;
            }
            int jump = book.codeLength + 1;
            put(JUMP, 0);
            book.patch(unless, book.codeLength);
            if (!readExpression(depth + 1) || !take(')')) {
                return false;
            }
            book.patch(jump, book.codeLength);
            return true;
        }

        private boolean readOf(int depth) {
            if (!takeNumber(0, owner == null ? NONE : owner.needs - 1)) {
                return false;
            }
            int need = number;
            if (!take('.') || !takeMethod(null)) {
                return false;
            }
            int method = found;
            if (!readWithin(depth)) {
                return false;
            }
            return put(CALL_NEED, need * METHODS + method);
        }

        private boolean putAlone(int order) {
            book.emit(order);
            return true;
        }

        private boolean put(int order, int with) {
            book.emit(order);
            book.emit(with);
            return true;
        }

        private boolean take(int kind) {
            if (tape.kind != kind) {
                return wrong(1);
            }
            tape.next();
            return true;
        }

        private boolean takeNumber(int least, int most) {
            if (tape.kind != Tape.NUMBER) {
                return wrong(1);
            }
            if (tape.value < least || tape.value > most) {
                return wrong(4);
            }
            number = (int) tape.value;
            tape.next();
            return true;
        }

        private boolean takeNewName() {
            if (tape.kind != Tape.NAME) {
                return wrong(1);
            }
            if (book.isTold(tape.value)) {
                return wrong(3);
            }
            word = tape.value;
            tape.next();
            return true;
        }

        private boolean isToldType() {
            if (tape.kind != Tape.NAME) {
                return wrong(1);
            }
            found = book.types.find(tape.value);
            return found != NONE || wrong(2);
        }

        private boolean takeTypes() {
            int listed = 0;
            under = 0;
            for (int i = 0; i <= LISTED_TYPES; i++) {
                if (!isToldType()) {
                    return false;
                }
                if ((listed >> found & 1) != 0) {
                    return wrong(3);
                }
                if (i == LISTED_TYPES) {
                    return wrong(5);
                }
                listed |= 1 << found;
                under |= book.typeUnder[found];
                tape.next();
                if (tape.kind != ',') {
                    return true;
                }
                tape.next();
            }
            return false;
        }

        private boolean takeSetting() {
            if (tape.kind != Tape.NAME) {
                return wrong(1);
            }
            found = book.settings.find(tape.value);
            if (found == NONE) {
                return wrong(2);
            }
            tape.next();
            return true;
        }

        /** The METHOD's number; a component that is told has it for the first time. */
        private boolean takeMethod(Component teller) {
            if (tape.kind != Tape.NAME) {
                return wrong(1);
            }
            int known = book.methods.find(tape.value);
            if (known != NONE && teller != null && teller.methodStarts[known] != NONE) {
                return wrong(3);
            }
            return takeNumbered(book.methods, known);
        }

        private boolean takeCalled() {
            tape.next();
            if (tape.kind != Tape.NAME) {
                return wrong(1);
            }
            return takeNumbered(book.words, book.words.find(tape.value));
        }

        private boolean takeNumbered(Names names, int known) {
            found = known != NONE ? known : names.add(tape.value);
            if (found == NONE) {
                return wrong(5);
            }
            tape.next();
            return true;
        }

        private boolean wrong(int kind) {
            fault = kind + 16 * tape.start;
            return false;
        }
    }

    /** CHECK, and what the latest one has found. */
    private static final class Checker {
        private static final int LEFT = -2;

        private final int[] kinds = new int[FAULTS_TOLD];
        private final int[] whose = new int[FAULTS_TOLD];
        private final int[] details = new int[FAULTS_TOLD];
        private final int[] rings = new int[FAULTS_TOLD * COMPONENTS];
        private final int[] path = new int[COMPONENTS];
        // Where on the path a component is; one that was left has LEFT, one not yet met NONE.
        private final int[] onPath = new int[COMPONENTS];
        private Book book;
        private int faults;

        void clear() {
            faults = 0;
        }

        int examine(Book examined) {
            book = examined;
            faults = 0;
            for (int c = 0; c < book.names.size; c++) {
                if (book.isThere(c)) {
                    examineNeeds(c);
                }
            }
            Arrays.fill(onPath, NONE);
            for (int c = 0; c < book.names.size; c++) {
                if (book.isThere(c) && onPath[c] == NONE) {
                    follow(c, 0);
                }
            }
            return faults;
        }

        private void examineNeeds(int c) {
            for (int need = 0; need < book.components[c].needs; need++) {
                int kind = faultOf(c, need);
                if (kind != 0) {
                    note(kind, c, need);
                }
            }
        }

        private int faultOf(int c, int need) {
            Component needing = book.components[c];
            int kind = needing.needKinds[need];
            int found = book.candidates(c, need);
            if (kind != ALL && found == 0) {
                return MISSING;
            }
            if (kind != ALL && Integer.bitCount(found) > 1) {
                return DOUBLED;
            }
            return kind != LATE && hasShorter(found, needing.scope) ? SHORT : 0;
        }

        private boolean hasShorter(int found, int scope) {
            int reach = scope == NEW ? MEAL : scope;
            for (int c = 0; c < book.names.size; c++) {
                int other = book.components[c].scope;
                if ((found >> c & 1) != 0 && other != NEW && other > reach) {
                    return true;
                }
            }
            return false;
        }

        private void follow(int c, int depth) {
            if (depth >= COMPONENTS) {
                return;
            }
            path[depth] = c;
            onPath[c] = depth;
            for (int need = 0; need < book.components[c].needs; need++) {
                int found = book.components[c].needKinds[need] == LATE ? 0 : followed(c, need);
                for (int other = 0; other < book.names.size; other++) {
                    if ((found >> other & 1) == 0) {
                        continue;
                    }
                    if (onPath[other] == NONE) {
                        follow(other, depth + 1);
                    } else if (onPath[other] != LEFT) {
                        noteRing(onPath[other], depth);
                    }
                }
            }
            onPath[c] = LEFT;
        }

        private int followed(int c, int need) {
            int kind = faultOf(c, need);
            return kind == MISSING || kind == DOUBLED ? 0 : book.candidates(c, need);
        }

        private void noteRing(int from, int to) {
            if (faults < FAULTS_TOLD) {
                for (int k = from; k <= to; k++) {
                    rings[faults * COMPONENTS + k - from] = path[k];
                }
            }
            note(CYCLE, path[from], to - from + 1);
        }

        private void note(int kind, int c, int detail) {
            if (faults < FAULTS_TOLD) {
                kinds[faults] = kind;
                whose[faults] = c;
                details[faults] = detail;
            }
            faults++;
        }

        private boolean tells(int i) {
            return i >= 0 && i < faults && i < FAULTS_TOLD;
        }

        int tell(int i, int what) {
            if (!tells(i)) {
                return NONE;
            }
            switch (what) {
                case 0: return kinds[i];
                case 1: return whose[i];
                case 2: return details[i];
                default: return NONE;
            }
        }

        int onRing(int i, int k) {
            boolean isRing = tells(i) && kinds[i] == CYCLE;
            return isRing && k >= 0 && k < details[i] ? rings[i * COMPONENTS + k] : NONE;
        }
    }

    /** The scopes and the objects in them. */
    private static final class Stock {
        private final int[] scopeKinds = new int[SCOPES];
        private final int[] days = new int[SCOPES];
        private final boolean[] isOpened = new boolean[SCOPES];
        private final int[] spoils = new int[SCOPES];
        // Of each scope and component the object that is there or under way, NEW ones left out.
        private final int[] present = new int[SCOPES * COMPONENTS];
        private final int[] components = new int[OBJECTS];
        private final int[] places = new int[OBJECTS];
        private final int[] states = new int[OBJECTS];
        private final int[] ends = new int[OBJECTS];
        // What a need is joined to is a chain, since makings run within one another.
        private final int[] chains = new int[OBJECTS * NEEDS];
        private int[] links = new int[512];
        private int[] nextLinks = new int[512];
        private int scopeCount;
        private int objectCount;
        private int endCount;
        private int linkCount;

        Stock() {
            Arrays.fill(present, NONE);
            isOpened[0] = true;
            scopeCount = 1;
        }

        void clear() {
            Arrays.fill(present, NONE);
            for (int s = 0; s < SCOPES; s++) {
                shut(s);
            }
            isOpened[0] = true;
            scopeCount = 1;
            objectCount = 0;
            endCount = 0;
            linkCount = 0;
        }

        boolean isOpen(int scope) {
            return scope >= 0 && scope < scopeCount && isOpened[scope];
        }

        int open(int kind, int day) {
            if (scopeCount >= SCOPES) {
                return NONE;
            }
            scopeKinds[scopeCount] = kind;
            days[scopeCount] = day;
            isOpened[scopeCount] = true;
            return scopeCount++;
        }

        int openScopes() {
            int sum = 0;
            for (int s = 0; s < scopeCount; s++) {
                sum += isOpened[s] ? 1 : 0;
            }
            return sum;
        }

        /** The scope within this one, or itself, that is to be closed first. */
        int innermost(int scope) {
            int inner = scope;
            if (scope == 0) {
                inner = latestOpen(DAY, 0);
            }
            int meal = latestOpen(MEAL, inner);
            return meal != NONE ? meal : inner != NONE ? inner : scope;
        }

        private int latestOpen(int kind, int day) {
            for (int s = scopeCount - 1; s > 0; s--) {
                if (isOpened[s] && scopeKinds[s] == kind && days[s] == day) {
                    return s;
                }
            }
            return NONE;
        }

        void shut(int scope) {
            isOpened[scope] = false;
            spoils[scope] = 0;
        }

        void reopenHouse() {
            isOpened[0] = true;
        }

        int placeOf(int scopeKind, int scope) {
            int here = scopeKinds[scope];
            switch (scopeKind) {
                case HOUSE: return 0;
                case DAY: return here == DAY ? scope : here == MEAL ? days[scope] : NONE;
                case MEAL: return here == MEAL ? scope : NONE;
                default: return scope;
            }
        }

        boolean isSpoiled(int place, int c) {
            return (spoils[place] >> c & 1) != 0;
        }

        void spoil(int place, int c) {
            spoils[place] |= 1 << c;
        }

        boolean has(int o) {
            return o >= 0 && o < objectCount;
        }

        boolean isMade(int o) {
            return has(o) && states[o] == MADE;
        }

        int componentOf(int o) {
            return has(o) ? components[o] : 0;
        }

        int objectAt(int place, int c) {
            return present[place * COMPONENTS + c];
        }

        int beginObject(int c, int place, boolean isShared) {
            if (objectCount >= OBJECTS) {
                return NONE;
            }
            int o = objectCount++;
            components[o] = c;
            places[o] = place;
            states[o] = BEING_MADE;
            Arrays.fill(chains, o * NEEDS, o * NEEDS + NEEDS, NONE);
            if (isShared) {
                present[place * COMPONENTS + c] = o;
            }
            return o;
        }

        void finishObject(int o) {
            states[o] = MADE;
            ends[o] = endCount++;
        }

        void dropObject(int o) {
            int spot = places[o] * COMPONENTS + components[o];
            states[o] = GONE;
            if (present[spot] == o) {
                present[spot] = NONE;
            }
        }

        int madeObjects() {
            int sum = 0;
            for (int o = 0; o < objectCount; o++) {
                sum += states[o] == MADE ? 1 : 0;
            }
            return sum;
        }

        int latestMade(int scope) {
            int latest = NONE;
            for (int o = 0; o < objectCount; o++) {
                boolean isHere = states[o] == MADE && places[o] == scope;
                if (isHere && (latest == NONE || ends[o] > ends[latest])) {
                    latest = o;
                }
            }
            return latest;
        }

        void join(int o, int need, int other) {
            if (linkCount >= links.length) {
                links = Arrays.copyOf(links, linkCount * 2);
                nextLinks = Arrays.copyOf(nextLinks, linkCount * 2);
            }
            links[linkCount] = other;
            nextLinks[linkCount] = NONE;
            int last = chains[o * NEEDS + need];
            if (last == NONE) {
                chains[o * NEEDS + need] = linkCount;
            } else {
                for (int k = 0; k < COMPONENTS && nextLinks[last] != NONE; k++) {
                    last = nextLinks[last];
                }
                nextLinks[last] = linkCount;
            }
            linkCount++;
        }

        int joinedTo(int o, int need, int i) {
            if (!has(o) || need < 0 || need >= NEEDS || i < 0) {
                return NONE;
            }
            int link = chains[o * NEEDS + need];
            for (int k = 0; k < i && link != NONE; k++) {
                link = nextLinks[link];
            }
            return link == NONE ? NONE : links[link];
        }
    }

    /** What is told afterwards of makings, calls and closings. */
    private static final class Notes {
        private final int[] thingKinds = new int[THINGS_TOLD];
        private final int[] things = new int[THINGS_TOLD];
        private final int[] thingArgs = new int[THINGS_TOLD];
        private final int[] closings = new int[OBJECTS];
        private final int[] closingKinds = new int[OBJECTS];
        private int thingCount;
        private int closingCount;
        private int causeNeeds;
        private int causeKind;
        private boolean listening;

        void clear() {
            thingCount = 0;
            closingCount = 0;
            causeNeeds = 0;
            causeKind = 0;
        }

        void forgetThings() {
            thingCount = 0;
        }

        void noteThing(int kind, int thing, int arg) {
            if (listening && thingCount < THINGS_TOLD) {
                thingKinds[thingCount] = kind;
                things[thingCount] = thing;
                thingArgs[thingCount] = arg;
                thingCount++;
            }
        }

        int ofThing(int i, int what) {
            if (i < 0 || i >= thingCount) {
                return NONE;
            }
            switch (what) {
                case 0: return thingKinds[i];
                case 1: return things[i];
                case 2: return thingArgs[i];
                default: return NONE;
            }
        }

        void noteClosing(int o, int kind) {
            if (closingCount < OBJECTS) {
                closings[closingCount] = o;
                closingKinds[closingCount] = kind;
                closingCount++;
            }
        }

        int ofClosing(int i, int what) {
            if (i < 0 || i >= closingCount) {
                return NONE;
            }
            return what == 0 ? closings[i] : what == 1 ? closingKinds[i] : NONE;
        }

        void noteCause(int needs, int kind) {
            causeNeeds = needs;
            causeKind = kind;
        }

        int kindOfCause(int i) {
            if (i < 0 || i > causeNeeds) {
                return 0;
            }
            return i < causeNeeds ? FROM_A_NEED : causeKind;
        }
    }

    /** One of the things that are under way within one another. */
    private static final class Frame {
        private int kind;
        private int phase;
        private int level;
        private int object;
        private int component;
        private int scope;
        private int method;
        private int arg;
        // A place among the wraps, or a need; and how far it has come in that one.
        private int position;
        private int item;
        // What an E calls on its need, with what, and the answers' sum.
        private int target;
        private int given;
        private int sum;
        // How many objects were made ahead of it; the failure that it holds back.
        private int mark;
        private int needs;
        private int failure;
        private boolean spent;
        // Where in the code it is, and where its values begin.
        private int at;
        private int base;
    }

    /**
     * Gets, makes, calls and closes. What is under way stands on a stack of its own, since makings,
     * calls and wraps may go deeper than calls of Java ought to.
     */
    private static final class Machine {
        private static final int ROOT = 0;
        private static final int MAKING = 1;
        private static final int CALLING = 2;
        private static final int INSIDE = 3;
        private static final int WORKING = 4;
        private static final int CLOSING = 5;

        // What the frame on top hears of the one that stood on it.
        private static final int GOES_ON = 0;
        private static final int ANSWERED = 1;
        private static final int FAILED = 2;
        private static final int SPENT = 3;

        private static final int START = 0;
        private static final int WAITING = 1;
        private static final int UNDOING = 2;
        private static final int RESCUING = 3;
        private static final int BEFORES = 4;
        private static final int AFTERS = 5;
        private static final int ASKING = 6;
        private static final int GETTING = 7;
        private static final int SUMMING = 8;

        private static final int FRAMES = 400;
        private static final int VALUES = 2048;
        private static final int TURNS = 1000000;

        private final Stock stock;
        private final Notes notes;
        private final Frame[] frames = new Frame[FRAMES];
        private final int[] values = new int[VALUES];
        private final int[] made = new int[OBJECTS];
        private Book book;
        private int depth;
        private int top;
        private int madeCount;
        private int signal;
        private int answer;
        private int needs;
        private int failure;
        private int stepsNow;
        private int stepsInAll;

        Machine(Book book, Stock stock, Notes notes) {
            this.book = book;
            this.stock = stock;
            this.notes = notes;
        }

        void takeBook(Book other) {
            book = other;
            restart();
        }

        void restart() {
            depth = 0;
            top = 0;
            madeCount = 0;
            signal = GOES_ON;
            stepsNow = 0;
        }

        boolean isSpent() {
            return signal == SPENT;
        }

        int howItEnded() {
            if (signal == FAILED) {
                notes.noteCause(needs, failure);
                return FAILURE;
            }
            return signal == SPENT ? ALL_SPENT : WELL;
        }

        int answerOr(int other) {
            return signal == ANSWERED ? answer : other;
        }

        void run() {
            for (int turn = 0; turn < TURNS && depth > 0; turn++) {
                Frame frame = frames[depth - 1];
                switch (frame.kind) {
                    case ROOT: goOnGetting(frame); break;
                    case MAKING: goOnMaking(frame); break;
                    case CALLING: goOnCalling(frame); break;
                    case INSIDE: goOnInside(frame); break;
                    case WORKING: goOnWorking(frame); break;
                    default: goOnClosing(frame); break;
                }
            }
        }

        private Frame push(int kind, int level, int object, int component, int scope) {
            if (depth < FRAMES && frames[depth] == null) {
                frames[depth] = new Frame();
            }
            Frame frame = frames[depth < FRAMES ? depth++ : FRAMES - 1];
            frame.kind = kind;
            frame.phase = START;
            frame.level = level;
            frame.object = object;
            frame.component = component;
            frame.scope = scope;
            frame.position = 0;
            frame.item = 0;
            frame.spent = false;
            signal = GOES_ON;
            return frame;
        }

        void pushRoot(int component, int scope, int level) {
            Frame frame = push(ROOT, level, NONE, component, scope);
            frame.mark = madeCount;
        }

        void pushCall(int object, int scope, int method, int arg, int level) {
            Frame frame = push(CALLING, level, object, stock.componentOf(object), scope);
            frame.method = method;
            frame.arg = arg;
        }

        void pushClose(int object, int level) {
            push(CLOSING, level, object, stock.componentOf(object), stock.places[object]);
        }

        /** The E at a place of the code, for what the frame below is about. */
        private Frame pushWork(Frame below, int start, int arg) {
            Frame frame = push(WORKING, below.level, below.object, below.component, below.scope);
            frame.method = below.method;
            frame.arg = arg;
            frame.at = start;
            frame.base = top;
            return frame;
        }

        private void leave() {
            depth--;
        }

        private void answerWith(int value) {
            signal = ANSWERED;
            answer = value;
        }

        private void failWith(int needsAhead, int kind) {
            signal = FAILED;
            needs = needsAhead;
            failure = kind;
        }

        private void holdFailure(Frame frame) {
            frame.needs = needs;
            frame.failure = failure;
        }

        private static int firstKind(int needs, int kind) {
            return needs > 0 ? FROM_A_NEED : kind;
        }

        private boolean takesStep() {
            if (stepsNow >= STEPS_OF_A_CALL || stepsInAll >= STEPS_IN_ALL) {
                signal = SPENT;
                return false;
            }
            stepsNow++;
            stepsInAll++;
            return true;
        }

        // ---- TO GET and TO MAKE

        private void goOnGetting(Frame frame) {
            if (frame.phase == START) {
                frame.phase = WAITING;
                seek(frame.component, frame.scope, frame.level);
                return;
            }
            if (frame.phase == WAITING) {
                if (signal != FAILED) {
                    madeCount = frame.mark;
                    leave();
                    return;
                }
                holdFailure(frame);
                frame.phase = UNDOING;
            } else if (signal == SPENT) {
                frame.spent = true;
            }
            undoNext(frame);
        }

        private void undoNext(Frame frame) {
            if (madeCount > frame.mark) {
                madeCount--;
                pushClose(made[madeCount], frame.level);
                return;
            }
            failWith(frame.needs, frame.failure);
            if (frame.spent) {
                signal = SPENT;
            }
            leave();
        }

        /** Either answers or fails at once, or begins a making that does. */
        private void seek(int component, int scope, int level) {
            if (!book.has(component)) {
                failWith(0, NO_PLACE);
                return;
            }
            boolean isShared = book.components[component].scope != NEW;
            int place = stock.placeOf(book.components[component].scope, scope);
            if (place == NONE) {
                failWith(0, NO_PLACE);
                return;
            }
            if (stock.isSpoiled(place, component)) {
                failWith(0, IS_SPOILED);
                return;
            }
            int there = isShared ? stock.objectAt(place, component) : NONE;
            if (there == NONE) {
                beginMaking(component, place, level, isShared);
            } else if (stock.isMade(there)) {
                answerWith(there);
            } else {
                failWith(0, UNDER_WAY);
            }
        }

        private void beginMaking(int component, int place, int level, boolean isShared) {
            if (!takesStep()) {
                return;
            }
            int object = stock.beginObject(component, place, isShared);
            if (object == NONE) {
                failWith(0, TOO_MANY);
                return;
            }
            push(MAKING, level, object, component, place);
        }

        private void goOnMaking(Frame frame) {
            boolean isOpening = frame.phase == WAITING;
            if (signal == FAILED || signal == SPENT) {
                needs += isOpening ? 0 : 1;
                abandon(frame);
                return;
            }
            if (isOpening) {
                finish(frame);
                return;
            }
            if (signal == ANSWERED) {
                stock.join(frame.object, frame.position, answer);
            }
            int candidate = nextCandidate(frame);
            int opened = book.components[frame.component].openedStart;
            if (candidate != NONE) {
                seek(candidate, frame.scope, frame.level);
            } else if (opened != NONE) {
                frame.phase = WAITING;
                pushWork(frame, opened, 0);
            } else {
                finish(frame);
            }
        }

        private int nextCandidate(Frame frame) {
            Component making = book.components[frame.component];
            while (frame.position < making.needs) {
                boolean isLate = making.needKinds[frame.position] == LATE;
                int found = isLate ? 0 : book.candidates(frame.component, frame.position);
                int left = found >>> frame.item;
                if (left != 0) {
                    int candidate = frame.item + Integer.numberOfTrailingZeros(left);
                    frame.item = candidate + 1;
                    return candidate;
                }
                frame.position++;
                frame.item = 0;
            }
            return NONE;
        }

        private void finish(Frame frame) {
            stock.finishObject(frame.object);
            if (madeCount < OBJECTS) {
                made[madeCount++] = frame.object;
            }
            answerWith(frame.object);
            leave();
        }

        private void abandon(Frame frame) {
            stock.dropObject(frame.object);
            boolean isPassing = failure == UNDER_WAY || failure == TOO_DEEP || failure == TOO_MANY;
            boolean isShared = book.components[frame.component].scope != NEW;
            if (signal == FAILED && isShared && !isPassing) {
                stock.spoil(frame.scope, frame.component);
            }
            leave();
        }

        // ---- TO CALL

        private void goOnCalling(Frame frame) {
            if (frame.phase == START) {
                beginCalling(frame);
                return;
            }
            if (signal != FAILED) {
                leave();
                return;
            }
            if (frame.phase == WAITING) {
                holdFailure(frame);
                frame.phase = RESCUING;
                frame.position = book.wrapCount;
            }
            int at = book.wrapBackFrom(frame.position - 1, FAILING, frame.component, frame.method);
            if (at == NONE) {
                failWith(frame.needs, frame.failure);
                leave();
                return;
            }
            frame.position = at;
            workWrap(frame, at, firstKind(frame.needs, frame.failure));
        }

        private void beginCalling(Frame frame) {
            if (!takesStep()) {
                leave();
            } else if (frame.level > LEVELS) {
                failWith(0, TOO_DEEP);
                leave();
            } else if (!stock.isMade(frame.object)) {
                failWith(0, WENT);
                leave();
            } else {
                frame.phase = WAITING;
                pushInside(frame, 0, frame.arg);
            }
        }

        /** What is inside the arounds that stand ahead of a place in the wraps' order. */
        private void pushInside(Frame below, int place, int arg) {
            Frame frame = push(INSIDE, below.level, below.object, below.component, below.scope);
            frame.method = below.method;
            frame.arg = arg;
            frame.position = place;
        }

        private Frame workWrap(Frame frame, int at, int arg) {
            int number = book.wrapOrder[at];
            Wrap wrap = book.wraps[number];
            notes.noteThing(wrap.phase, number, arg);
            return pushWork(frame, wrap.start, arg);
        }

        private void goOnInside(Frame frame) {
            if (frame.phase == START) {
                beginInside(frame);
                return;
            }
            if (signal != ANSWERED || frame.phase == WAITING) {
                leave();
                return;
            }
            frame.arg = answer;
            if (frame.phase == BEFORES) {
                nextBefore(frame);
            } else {
                nextAfter(frame);
            }
        }

        private void beginInside(Frame frame) {
            int at = book.wrapFrom(frame.position, AROUND, frame.component, frame.method);
            if (at != NONE) {
                frame.phase = WAITING;
                workWrap(frame, at, frame.arg).position = at + 1;
                return;
            }
            // The befores come in the next turn, which takes up an answer: here the arg itself.
            frame.phase = BEFORES;
            frame.position = 0;
            answerWith(frame.arg);
        }

        private void nextBefore(Frame frame) {
            int at = book.wrapFrom(frame.position, BEFORE, frame.component, frame.method);
            if (at != NONE) {
                frame.position = at + 1;
                workWrap(frame, at, frame.arg);
                return;
            }
            int start = book.components[frame.component].methodStarts[frame.method];
            if (start == NONE) {
                failWith(0, NO_METHOD);
                leave();
                return;
            }
            frame.phase = AFTERS;
            frame.position = book.wrapCount;
            notes.noteThing(THE_METHOD, frame.object, frame.arg);
            pushWork(frame, start, frame.arg);
        }

        private void nextAfter(Frame frame) {
            int at = book.wrapBackFrom(frame.position - 1, AFTER, frame.component, frame.method);
            if (at == NONE) {
                answerWith(frame.arg);
                leave();
                return;
            }
            frame.position = at;
            workWrap(frame, at, frame.arg);
        }

        // ---- E's

        private void goOnWorking(Frame frame) {
            if (frame.phase == ASKING) {
                callNeed(frame);
                return;
            }
            if (frame.phase != START) {
                if (signal != ANSWERED) {
                    endWork(frame);
                    return;
                }
                if (!takesAnswer(frame)) {
                    return;
                }
            }
            frame.phase = START;
            work(frame);
        }

        private void endWork(Frame frame) {
            top = frame.base;
            leave();
        }

        private void work(Frame frame) {
            boolean goesOn = true;
            for (int i = 0; goesOn && i < book.codeLength && frame.at < book.codeLength; i++) {
                int order = book.code[frame.at];
                frame.at++;
                if (order >= PUT) {
                    goesOn = worksWith(frame, order);
                } else if (order >= ADD) {
                    int right = pull();
                    put(compute(order, pull(), right));
                } else {
                    goesOn = worksAlone(frame, order);
                }
            }
        }

        /** Answers, as worksWith does, whether this E goes on at once. */
        private boolean worksAlone(Frame frame, int order) {
            switch (order) {
                case STEP:
                    if (!takesStep()) {
                        endWork(frame);
                        return false;
                    }
                    return true;
                case PUT_ARG:
                    put(frame.arg);
                    return true;
                case NEGATE:
                    put(-pull());
                    return true;
                case GO_INSIDE:
                    frame.phase = WAITING;
                    pushInside(frame, frame.position, pull());
                    return false;
                default:
                    answerWith(pull());
                    endWork(frame);
                    return false;
            }
        }

        private boolean worksWith(Frame frame, int order) {
            int with = frame.at < book.codeLength ? book.code[frame.at] : 0;
            frame.at++;
            switch (order) {
                case PUT:
                    put(with);
                    return true;
                case PUT_SETTING:
                    put(book.settingValues[with]);
                    return true;
                case JUMP:
                    frame.at = with;
                    return true;
                case UNLESS:
                    frame.at = pull() == 0 ? with : frame.at;
                    return true;
                case FAIL:
                    failWith(0, with);
                    endWork(frame);
                    return false;
                default:
                    frame.position = with / METHODS;
                    frame.target = with % METHODS;
                    frame.given = pull();
                    frame.phase = ASKING;
                    return false;
            }
        }

        private static int compute(int order, int left, int right) {
            switch (order) {
                case ADD: return left + right;
                case SUBTRACT: return left - right;
                case MULTIPLY: return left * right;
                case LESS: return left < right ? 1 : 0;
                default: return left == right ? 1 : 0;
            }
        }

        private void put(int value) {
            if (top < VALUES) {
                values[top++] = value;
            }
        }

        private int pull() {
            return top > 0 ? values[--top] : 0;
        }

        private void callNeed(Frame frame) {
            int kind = book.components[frame.component].needKinds[frame.position];
            // A late need that is not NEW is never joined, and is looked for at each use.
            int first = stock.joinedTo(frame.object, frame.position, 0);
            if (kind == ALL) {
                frame.phase = SUMMING;
                frame.item = 0;
                frame.sum = 0;
                answerWith(0);
            } else if (kind == LATE && first == NONE) {
                frame.phase = GETTING;
                getLate(frame);
            } else {
                frame.phase = WAITING;
                pushCall(first, frame.scope, frame.target, frame.given, frame.level + 1);
            }
        }

        private void getLate(Frame frame) {
            if (frame.level >= LEVELS) {
                failWith(0, TOO_DEEP);
                return;
            }
            int candidate = book.firstCandidate(frame.component, frame.position);
            pushRoot(candidate, frame.scope, frame.level + 1);
        }

        /** What this E waited for has come; answers whether it goes on at once. */
        private boolean takesAnswer(Frame frame) {
            if (frame.phase == WAITING) {
                put(answer);
                return true;
            }
            if (frame.phase == GETTING) {
                joinLate(frame, answer);
                frame.phase = WAITING;
                pushCall(answer, frame.scope, frame.target, frame.given, frame.level + 1);
                return false;
            }
            frame.sum += answer;
            int next = stock.joinedTo(frame.object, frame.position, frame.item);
            if (next == NONE) {
                put(frame.sum);
                return true;
            }
            frame.item++;
            pushCall(next, frame.scope, frame.target, frame.given, frame.level + 1);
            return false;
        }

        private void joinLate(Frame frame, int got) {
            boolean isNew = book.components[stock.componentOf(got)].scope == NEW;
            if (isNew && stock.joinedTo(frame.object, frame.position, 0) == NONE) {
                stock.join(frame.object, frame.position, got);
            }
        }

        // ---- TO CLOSE

        private void goOnClosing(Frame frame) {
            int start = book.components[frame.component].closedStart;
            if (frame.phase == START && start != NONE) {
                frame.phase = WAITING;
                pushWork(frame, start, 0);
                return;
            }
            int kind = 0;
            if (signal == FAILED) {
                kind = firstKind(needs, failure);
            } else if (signal == SPENT) {
                kind = SPENT_CLOSING;
            } else {
                answerWith(0);
            }
            notes.noteClosing(frame.object, kind);
            stock.dropObject(frame.object);
            leave();
        }
    }
}
