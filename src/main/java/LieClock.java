import java.util.Arrays;

/** A court whose clock goes back by a lie that is caught and forward by a true word against oneself. */
public final class LieClock {
    public static final int NONE = -1;

    private static final int NOTHING = -2;
    private static final int NO_MINUTE = -1000000;

    private static final int MAX_BYTES = 2000;
    private static final int MAX_TOKENS = 400;
    private static final int MAX_LETTERS = 8;
    private static final int MAX_DIGITS = 4;
    private static final int MAX_DEPTH = 6;
    private static final int MAX_FACTS = 6;
    private static final int MAX_WITNESSES = 6;
    private static final int MAX_WORDS = 16;
    private static final int MAX_CASES = 8;
    private static final int LAST_MINUTE = 2879;

    private static final int TOP = 100000;
    private static final int DAY = 1440;
    private static final int LONGEST_LAW = 120;
    private static final int LONGEST_PAUSE = 3000;
    private static final int MAX_UNDO = 40;
    private static final int MAX_SLOTS = 3;
    private static final int MAX_READINGS = 5;
    private static final int MAX_AHEAD = 4;
    private static final int MAX_ORDER = 6;

    private static final int SYNTAX = 1;
    private static final int ROOM = 2;
    private static final int TWICE = 3;
    private static final int UNKNOWN = 4;
    private static final int WRONG = 5;

    /** Kinds of tokens: a sign's kind is its byte, a keyword's is KEY and its place among KEYWORDS. */
    private static final int END = 0;
    private static final int BAD = 1;
    private static final int NAME = 2;
    private static final int INT = 3;
    private static final int KEY = 100;
    private static final int FACT = 100;
    private static final int YES = 101;
    private static final int NO = 102;
    private static final int OPEN = 103;
    private static final int WITNESS = 104;
    private static final int WORD = 105;
    private static final int SELF = 106;
    private static final int CASE = 107;
    private static final int BACK = 108;
    private static final int FORTH = 109;
    private static final int CLOCK = 110;
    private static final int OR = 111;
    private static final int AND = 112;
    private static final int NOT = 113;
    private static final int LIES = 114;
    private static final int SAID = 115;
    private static final int MINUTE = 116;
    private static final int HEARD = 117;
    private static final int KEY_COUNT = 18;
    private static final String KEYWORDS =
        "fact yes no open witness word self case back forth clock or and not lies said minute heard ";
    private static final String SIGNS = ";=+-*/()";

    /** Bit s of the f-th is set if fact f is true in state s; so a set of all 64 states is one long. */
    private static final long[] WHERE_TRUE = {
        0xAAAAAAAAAAAAAAAAL, 0xCCCCCCCCCCCCCCCCL, 0xF0F0F0F0F0F0F0F0L,
        0xFF00FF00FF00FF00L, 0xFFFF0000FFFF0000L, 0xFFFFFFFF00000000L
    };

    private final Tape tape;
    private int faultPlace = NONE;
    private final Parser parser;
    private Told told;
    private Told spare;
    private final State now;
    private final State probe;
    private final State[] past;
    private int undoable;
    private int pastEnd;
    private final State[] slots;
    private final Tape[] slotTapes;
    private final boolean[] held;
    private final Sets sets;
    private final Orders orders;
    private final Ahead aheads;
    private final Book book;

    public LieClock() {
        tape = new Tape();
        told = new Told();
        spare = new Told();
        parser = new Parser(spare);
        told.finish();
        now = new State(true);
        now.begin(told);
        probe = new State(false);
        past = new State[MAX_UNDO];
        for (int i = 0; i < MAX_UNDO; i++) {
            past[i] = new State(true);
        }
        slots = new State[MAX_SLOTS];
        slotTapes = new Tape[MAX_SLOTS];
        held = new boolean[MAX_SLOTS];
        for (int i = 0; i < MAX_SLOTS; i++) {
            slots[i] = new State(true);
            slotTapes[i] = new Tape();
        }
        Nodes nodes = new Nodes();
        sets = new Sets();
        orders = new Orders();
        aheads = new Ahead(nodes);
        book = new Book(nodes);
    }

    public int feed(int a, int b, int c, int d, int e) {
        if (tape.length > MAX_BYTES - 20) {
            return NONE;
        }
        tape.append(a);
        tape.append(b);
        tape.append(c);
        tape.append(d);
        tape.append(e);
        return tape.length;
    }

    public int back(int n) {
        if (n < 0 || n > tape.length) {
            return NONE;
        }
        tape.length -= n;
        return tape.length;
    }

    public int read() {
        int fault = parser.parse(tape, spare);
        tape.length = 0;
        faultPlace = parser.faultPlace();
        if (fault != 0) {
            return fault;
        }
        Told former = told;
        told = spare;
        spare = former;
        now.begin(told);
        undoable = 0;
        book.clear();
        for (int i = 0; i < MAX_SLOTS; i++) {
            held[i] = false;
        }
        forgetSearches();
        return 0;
    }

    public int place() {
        return faultPlace;
    }

    public int clock() {
        return now.clock;
    }

    public int fact(int fact, int what) {
        if (fact < 0 || fact >= told.facts) {
            return NONE;
        }
        switch (what) {
            case 0: return told.truths >> fact & 1;
            case 1: return now.open >> fact & 1;
            default: return NONE;
        }
    }

    public int word(int word, int what) {
        if (!told.hasWord(word)) {
            return NONE;
        }
        switch (what) {
            case 0: return told.teller[word];
            case 1: return told.selfs >> word & 1;
            case 2: return told.trueWords >> word & 1;
            case 3: return now.said >> word & 1;
            case 4: return now.caught >> word & 1;
            case 5: return Long.bitCount(told.holds[word] & told.everything);
            default: return NONE;
        }
    }

    public int witness(int witness, int what) {
        if (witness < 0 || witness >= told.witnesses) {
            return NONE;
        }
        int his = told.wordsOf[witness];
        switch (what) {
            case 0: return Integer.bitCount(his & now.said);
            case 1: return Integer.bitCount(his & now.caught);
            case 2: return Integer.bitCount(his);
            case 3: return (now.may & told.together(his & now.said & ~now.caught)) != 0 ? 1 : 0;
            default: return NONE;
        }
    }

    public int share(int witness) {
        if (witness < 0 || witness >= told.witnesses) {
            return NO_MINUTE;
        }
        return now.shares[witness];
    }

    public int hearing(int number, int what) {
        if (!told.hasCase(number)) {
            return NONE;
        }
        switch (what) {
            case 0: return told.due[number];
            case 1: return now.times[number];
            case 2: return now.verdicts[number];
            case 3: return now.verdictOf(told, number);
            default: return NONE;
        }
    }

    public int say(int word) {
        if (!told.hasWord(word)) {
            return NONE;
        }
        keepForUndo();
        return now.utter(told, word);
    }

    public int look(int fact) {
        if (fact < 0 || fact >= told.facts) {
            return NONE;
        }
        if ((now.open >> fact & 1) != 0) {
            return NOTHING;
        }
        keepForUndo();
        return now.reveal(told, fact);
    }

    public int pause(int n) {
        if (n < 0 || n > LONGEST_PAUSE) {
            return NO_MINUTE;
        }
        if (n > 0) {
            keepForUndo();
            now.goForward(told, n);
        }
        return now.clock;
    }

    public boolean undo() {
        if (undoable <= 0) {
            return false;
        }
        undoable--;
        pastEnd = (pastEnd + MAX_UNDO - 1) % MAX_UNDO;
        now.copyFrom(past[pastEnd]);
        forgetSearches();
        return true;
    }

    public int would(int word) {
        if (!told.hasWord(word)) {
            return NO_MINUTE;
        }
        probe.copyMoment(now);
        probe.utter(told, word);
        return probe.clock;
    }

    public int ahead(int a, int b, int what) {
        if (!areTwoCases(a, b) || what < 0 || what > 1) {
            return NONE;
        }
        aheads.find(told, now, a, b);
        if (aheads.length == 0) {
            return NOTHING;
        }
        return what == 0 ? aheads.length : aheads.lies;
    }

    public int aheadAt(int a, int b, int i) {
        if (!areTwoCases(a, b) || i < 0) {
            return NONE;
        }
        aheads.find(told, now, a, b);
        if (aheads.length == 0) {
            return NOTHING;
        }
        return i < aheads.length ? aheads.path[i] : NONE;
    }

    public int order(int set, boolean late) {
        if (!canBeOrdered(set)) {
            return NO_MINUTE;
        }
        orders.find(told, now, set, late);
        return orders.bestClock;
    }

    public int orderAt(int set, boolean late, int i) {
        if (!canBeOrdered(set) || i < 0 || i >= Integer.bitCount(set)) {
            return NONE;
        }
        orders.find(told, now, set, late);
        return orders.best[i];
    }

    public int never(int set, int minute) {
        if (!canBeOrdered(set)) {
            return NONE;
        }
        return orders.canAvoid(told, now, set, minute) ? 1 : 0;
    }

    public int smallest() {
        sets.takeWords(told, (1 << told.words) - 1);
        return sets.fewest(now.may, -1L, -1L);
    }

    public int states(int set) {
        if (!told.hasSet(set)) {
            return NONE;
        }
        return Long.bitCount(now.may & told.together(set));
    }

    public int looks(int word) {
        if (!told.hasWord(word)) {
            return NONE;
        }
        sets.takeFacts(told, now.open);
        return sets.fewest(now.may & told.holds[word], -1L, -1L);
    }

    public int settled(int number) {
        if (!told.hasCase(number)) {
            return NONE;
        }
        sets.takeWords(told, told.trueWords);
        long guilt = told.guilt[number];
        return sets.fewest(now.may, guilt, ~guilt);
    }

    public int write(int reading) {
        if (reading < -TOP || reading > TOP) {
            return NONE;
        }
        return book.add(reading);
    }

    public int burn() {
        int gone = book.size;
        book.clear();
        return gone;
    }

    public long fits(int k) {
        if (k < 0 || k > book.size) {
            return NONE;
        }
        book.find(told, k);
        return book.rows[k];
    }

    public int surely(int k) {
        if (k < 0 || k > book.size) {
            return NONE;
        }
        book.find(told, k);
        return book.sure[k];
    }

    public int liars(int k) {
        if (k < 0 || k > book.size) {
            return NONE;
        }
        book.find(told, k);
        return book.liarsIn[k];
    }

    public boolean hold(int slot) {
        if (slot < 0 || slot >= MAX_SLOTS) {
            return false;
        }
        slots[slot].copyFrom(now);
        slotTapes[slot].copyFrom(tape);
        held[slot] = true;
        return true;
    }

    public boolean restore(int slot) {
        if (slot < 0 || slot >= MAX_SLOTS || !held[slot]) {
            return false;
        }
        now.copyFrom(slots[slot]);
        tape.copyFrom(slotTapes[slot]);
        undoable = 0;
        forgetSearches();
        return true;
    }

    public int count(int what) {
        switch (what) {
            case 0: return told.facts;
            case 1: return told.witnesses;
            case 2: return told.words;
            case 3: return told.cases;
            case 4: return Integer.bitCount(now.open);
            case 5: return Integer.bitCount(now.said);
            case 6: return Integer.bitCount(now.caught);
            case 7: return now.heard;
            case 8: return book.size;
            case 9: return tape.length;
            case 10: return undoable;
            case 11: return heldSlots();
            default: return NONE;
        }
    }

    private int heldSlots() {
        int n = 0;
        for (int i = 0; i < MAX_SLOTS; i++) {
            n += held[i] ? 1 : 0;
        }
        return n;
    }

    private boolean areTwoCases(int a, int b) {
        return told.hasCase(a) && told.hasCase(b) && a != b;
    }

    private boolean canBeOrdered(int set) {
        return told.hasSet(set) && Integer.bitCount(set) <= MAX_ORDER;
    }

    private void keepForUndo() {
        past[pastEnd].copyFrom(now);
        pastEnd = (pastEnd + 1) % MAX_UNDO;
        undoable = Math.min(undoable + 1, MAX_UNDO);
        forgetSearches();
    }

    private void forgetSearches() {
        aheads.known = false;
        orders.known = false;
    }

    /** The bytes that wait to be read. */
    private static final class Tape {
        private final byte[] bytes = new byte[MAX_BYTES];
        private int length;

        void append(int fourBytes) {
            for (int shift = 24; shift >= 0 && length < MAX_BYTES; shift -= 8) {
                bytes[length] = (byte) (fourBytes >> shift);
                length++;
            }
        }

        /** The byte at a place; NONE behind the end. */
        int at(int i) {
            return i >= 0 && i < length ? bytes[i] & 255 : NONE;
        }

        void copyFrom(Tape other) {
            System.arraycopy(other.bytes, 0, bytes, 0, other.length);
            length = other.length;
        }
    }

    /** A tape cut into tokens: up to the first that is none, the end, or the one too many. */
    private static final class Tokens {
        private final int[] kinds = new int[MAX_TOKENS + 1];
        private final int[] places = new int[MAX_TOKENS + 1];
        private final long[] values = new long[MAX_TOKENS + 1];
        private final long[] keys = new long[KEY_COUNT];
        private int size;

        Tokens() {
            int key = 0;
            long packed = 0;
            for (int i = 0; i < KEYWORDS.length() && key < KEY_COUNT; i++) {
                char c = KEYWORDS.charAt(i);
                if (c == ' ') {
                    keys[key] = packed;
                    key++;
                    packed = 0;
                } else {
                    packed = withLetter(packed, c);
                }
            }
        }

        void cut(Tape tape) {
            size = 0;
            int at = 0;
            boolean more = true;
            for (int i = 0; i <= MAX_TOKENS && more; i++) {
                at = cutOne(tape, skipBlanks(tape, at));
                more = kinds[i] != END && kinds[i] != BAD;
            }
        }

        int placeAt(int i) {
            return i >= 0 && i < size ? places[i] : 0;
        }

        private static int skipBlanks(Tape tape, int from) {
            int at = from;
            for (int i = from; i < tape.length && isBlank(tape.at(i)); i++) {
                at = i + 1;
            }
            return at;
        }

        /** Takes the token at a place in; answers the place behind it. */
        private int cutOne(Tape tape, int at) {
            int c = tape.at(at);
            if (isLetter(c)) {
                return cutLetters(tape, at);
            }
            if (isDigit(c)) {
                return cutDigits(tape, at);
            }
            if (c == NONE) {
                add(END, at, 0);
            } else {
                add(SIGNS.indexOf((char) c) >= 0 ? c : BAD, at, 0);
            }
            return at + 1;
        }

        private int cutLetters(Tape tape, int at) {
            long packed = 0;
            int end = at;
            for (int i = at; i < tape.length && isLetter(tape.at(i)); i++) {
                packed = i - at < MAX_LETTERS ? withLetter(packed, tape.at(i)) : packed;
                end = i + 1;
            }
            add(end - at > MAX_LETTERS ? BAD : kindOf(packed), at, packed);
            return end;
        }

        private int cutDigits(Tape tape, int at) {
            long number = 0;
            int end = at;
            for (int i = at; i < tape.length && isDigit(tape.at(i)); i++) {
                number = i - at < MAX_DIGITS ? number * 10 + tape.at(i) - '0' : number;
                end = i + 1;
            }
            add(end - at > MAX_DIGITS ? BAD : INT, at, number);
            return end;
        }

        private void add(int kind, int place, long value) {
            if (size <= MAX_TOKENS) {
                kinds[size] = kind;
                places[size] = place;
                values[size] = value;
                size++;
            }
        }

        private int kindOf(long packed) {
            for (int i = 0; i < KEY_COUNT; i++) {
                if (keys[i] == packed) {
                    return KEY + i;
                }
            }
            return NAME;
        }

        /** Eight letters of five bits each fit one long: names are compared as numbers. */
        private static long withLetter(long packed, int letter) {
            return packed * 32 + (letter - 'a' + 1);
        }

        private static boolean isBlank(int c) {
            return c == 32 || c == 9 || c == 10 || c == 13;
        }

        private static boolean isLetter(int c) {
            return c >= 'a' && c <= 'z';
        }

        private static boolean isDigit(int c) {
            return c >= '0' && c <= '9';
        }
    }

    /** Reads a tape into what it tells. The faults 1 and 2 end it; the first of 3 to 5 is kept aside till then. */
    private static final class Parser {
        private final Tokens tokens = new Tokens();
        private Told into;
        private int at;
        /** The kind of the token ahead; END behind a fault, so that all loops stop. */
        private int kind;
        private int fault;
        private int softFault;
        private int softPlace;

        Parser(Told target) {
            into = target;
        }

        int parse(Tape tape, Told target) {
            tokens.cut(tape);
            into = target;
            into.clear();
            at = 0;
            kind = tokens.kinds[0];
            fault = 0;
            softFault = 0;
            for (int i = 0; i <= MAX_TOKENS && kind != END; i++) {
                switch (kind) {
                    case FACT: tellFact(); break;
                    case WITNESS: tellWitness(); break;
                    case WORD: tellWord(); break;
                    case CASE: tellCase(); break;
                    case BACK: tellLaw(into.back); break;
                    case FORTH: tellLaw(into.forth); break;
                    case CLOCK: tellClock(); break;
                    default: fail(SYNTAX);
                }
            }
            into.finish();
            return fault != 0 ? fault : softFault;
        }

        int faultPlace() {
            if (fault != 0) {
                return tokens.placeAt(at);
            }
            return softFault != 0 ? softPlace : NONE;
        }

        private void fail(int number) {
            if (fault == 0) {
                fault = number;
                kind = END;
            }
        }

        /** A fault of the token just taken. */
        private void failSoftly(int number) {
            if (fault == 0 && softFault == 0) {
                softFault = number;
                softPlace = tokens.placeAt(at - 1);
            }
        }

        /** Goes behind the token ahead if it is of that kind. */
        private boolean accept(int wanted) {
            if (kind != wanted || fault != 0) {
                return false;
            }
            if (at >= MAX_TOKENS) {
                fault = ROOM;
                kind = END;
                return false;
            }
            at++;
            kind = tokens.kinds[at];
            return true;
        }

        private void expect(int wanted) {
            if (!accept(wanted)) {
                fail(SYNTAX);
            }
        }

        /** Goes behind a token of that kind and answers its value; 0 behind a fault. */
        private long take(int wanted) {
            if (!accept(wanted)) {
                fail(SYNTAX);
                return 0;
            }
            return tokens.values[at - 1];
        }

        /** Goes behind the token that begins what there may be so many of. */
        private void begin(int had, int most) {
            if (had >= most) {
                fail(ROOM);
            }
            accept(kind);
        }

        private void tellFact() {
            begin(into.facts, MAX_FACTS);
            long name = takeNewName();
            boolean yes = accept(YES);
            if (!yes) {
                expect(NO);
            }
            boolean open = accept(OPEN);
            expect(';');
            if (fault == 0) {
                into.addFact(name, yes, open);
            }
        }

        private void tellWitness() {
            begin(into.witnesses, MAX_WITNESSES);
            long name = takeNewName();
            expect(';');
            if (fault == 0) {
                into.addWitness(name);
            }
        }

        private void tellWord() {
            begin(into.words, MAX_WORDS);
            int witness = into.witnessNamed(take(NAME));
            if (witness < 0) {
                failSoftly(UNKNOWN);
            }
            boolean self = accept(SELF);
            expect('=');
            long holds = cond(0);
            expect(';');
            if (fault == 0) {
                into.addWord(witness, self, holds);
            }
        }

        private void tellCase() {
            begin(into.cases, MAX_CASES);
            long name = takeNewName();
            int due = takeMinute();
            expect('=');
            long guilt = cond(0);
            expect(';');
            if (fault == 0) {
                into.addCase(name, due, guilt);
            }
        }

        private void tellLaw(Law law) {
            accept(kind);
            law.clear();
            sum(law, 0);
            expect(';');
        }

        private void tellClock() {
            accept(kind);
            into.begin = takeMinute();
            expect(';');
        }

        private long takeNewName() {
            long name = take(NAME);
            if (into.isTold(name)) {
                failSoftly(TWICE);
            }
            return name;
        }

        private int takeMinute() {
            int minute = (int) take(INT);
            if (minute > LAST_MINUTE) {
                failSoftly(WRONG);
            }
            return minute;
        }

        /** The states in which a condition holds. */
        private long cond(int depth) {
            long states = all(depth);
            for (int i = 0; i <= MAX_TOKENS && accept(OR); i++) {
                states |= all(depth);
            }
            return states;
        }

        private long all(int depth) {
            long states = literal(depth);
            for (int i = 0; i <= MAX_TOKENS && accept(AND); i++) {
                states &= literal(depth);
            }
            return states;
        }

        private long literal(int depth) {
            boolean turned = false;
            // A row of 'not' may be as long as the text: a loop, for it would go too deep.
            for (int i = 0; i <= MAX_TOKENS && accept(NOT); i++) {
                turned = !turned;
            }
            long states = 0;
            if (kind == '(') {
                if (enter(depth)) {
                    states = cond(depth + 1);
                }
                expect(')');
            } else {
                int fact = into.factNamed(take(NAME));
                if (fact >= 0 && fact < MAX_FACTS) {
                    states = WHERE_TRUE[fact];
                } else {
                    failSoftly(UNKNOWN);
                }
            }
            return turned ? ~states : states;
        }

        /** Goes behind a ( if it does not stand too deep. */
        private boolean enter(int depth) {
            if (depth >= MAX_DEPTH) {
                fail(ROOM);
            }
            return accept('(');
        }

        private void sum(Law law, int depth) {
            product(law, depth);
            for (int i = 0; i <= MAX_TOKENS && (kind == '+' || kind == '-'); i++) {
                int sign = kind;
                accept(sign);
                product(law, depth);
                law.add(-sign);
            }
        }

        private void product(Law law, int depth) {
            unit(law, depth);
            for (int i = 0; i <= MAX_TOKENS && (kind == '*' || kind == '/'); i++) {
                int sign = kind;
                accept(sign);
                unit(law, depth);
                law.add(-sign);
            }
        }

        private void unit(Law law, int depth) {
            int first = kind;
            if (first == '(') {
                if (enter(depth)) {
                    sum(law, depth + 1);
                }
                expect(')');
            } else if (first == OPEN || first >= LIES && first <= HEARD) {
                accept(first);
                law.add(-first);
            } else {
                law.add((int) take(INT));
            }
        }
    }

    /** A law of minutes: ints as they are, signs and variables as their kinds less than 0, operators last. */
    private static final class Law {
        private static final int STACK = 32;
        private final int[] code = new int[MAX_TOKENS];
        private final int[] stack = new int[STACK];
        private int length;
        private int top;
        private boolean dividedByZero;

        void clear() {
            length = 0;
        }

        void add(int item) {
            if (length < MAX_TOKENS) {
                code[length] = item;
                length++;
            }
        }

        int minutes(State state, int his) {
            top = 0;
            dividedByZero = false;
            for (int i = 0; i < length; i++) {
                int item = code[i];
                if (item >= 0) {
                    push(item);
                } else if (item > -KEY) {
                    operate(-item);
                } else {
                    push(state.valueOf(-item, his));
                }
            }
            if (dividedByZero || top < 1) {
                return 0;
            }
            return Math.max(0, Math.min(LONGEST_LAW, stack[0]));
        }

        private void push(int value) {
            if (top >= 0 && top < STACK) {
                stack[top] = value;
                top++;
            }
        }

        private void operate(int sign) {
            if (top < 2 || top > STACK) {
                return;
            }
            top--;
            int right = stack[top];
            int left = stack[top - 1];
            int value = 0;
            switch (sign) {
                case '+': value = left + right; break;
                case '-': value = left - right; break;
                case '*': value = left * right; break;
                default:
                    if (right == 0) {
                        dividedByZero = true;
                    } else {
                        value = left / right;
                    }
            }
            stack[top - 1] = value;
        }
    }

    /** What a text tells: it stays as it is till another one is read. */
    private static final class Told {
        private int facts;
        private int truths;
        private int opens;
        private int witnesses;
        private int words;
        private int selfs;
        private int trueWords;
        private int cases;
        private int begin;
        private long everything;
        private final long[] factNames = new long[MAX_FACTS];
        private final long[] witnessNames = new long[MAX_WITNESSES];
        private final int[] wordsOf = new int[MAX_WITNESSES];
        private final int[] teller = new int[MAX_WORDS];
        private final long[] holds = new long[MAX_WORDS];
        private final long[] caseNames = new long[MAX_CASES];
        private final int[] due = new int[MAX_CASES];
        private final long[] guilt = new long[MAX_CASES];
        private final Law back = new Law();
        private final Law forth = new Law();

        void clear() {
            facts = 0;
            truths = 0;
            opens = 0;
            witnesses = 0;
            words = 0;
            selfs = 0;
            trueWords = 0;
            cases = 0;
            begin = 0;
            back.clear();
            forth.clear();
        }

        /** What can be said only when all is told. */
        void finish() {
            everything = facts < MAX_FACTS ? (1L << (1 << facts)) - 1 : -1L;
            for (int w = 0; w < words; w++) {
                trueWords |= (int) (holds[w] >>> truths & 1) << w;
            }
            tellOnce(back);
            tellOnce(forth);
        }

        private static void tellOnce(Law law) {
            if (law.length == 0) {
                law.add(1);
            }
        }

        void addFact(long name, boolean yes, boolean open) {
            if (facts < MAX_FACTS) {
                factNames[facts] = name;
                truths |= yes ? 1 << facts : 0;
                opens |= open ? 1 << facts : 0;
                facts++;
            }
        }

        void addWitness(long name) {
            if (witnesses < MAX_WITNESSES) {
                witnessNames[witnesses] = name;
                wordsOf[witnesses] = 0;
                witnesses++;
            }
        }

        void addWord(int witness, boolean self, long where) {
            if (words < MAX_WORDS && witness >= 0 && witness < MAX_WITNESSES) {
                teller[words] = witness;
                wordsOf[witness] |= 1 << words;
                selfs |= self ? 1 << words : 0;
                holds[words] = where;
            }
            // One of no known witness takes its room, too: the text fails behind its end.
            words = Math.min(words + 1, MAX_WORDS);
        }

        void addCase(long name, int minute, long where) {
            if (cases < MAX_CASES) {
                caseNames[cases] = name;
                due[cases] = minute;
                guilt[cases] = where;
                cases++;
            }
        }

        int factNamed(long name) {
            return indexOf(factNames, facts, name);
        }

        int witnessNamed(long name) {
            return indexOf(witnessNames, witnesses, name);
        }

        boolean isTold(long name) {
            return factNamed(name) >= 0 || witnessNamed(name) >= 0 || indexOf(caseNames, cases, name) >= 0;
        }

        private static int indexOf(long[] names, int size, long name) {
            for (int i = 0; i < size && i < names.length; i++) {
                if (names[i] == name) {
                    return i;
                }
            }
            return NONE;
        }

        boolean hasWord(int word) {
            return word >= 0 && word < words;
        }

        boolean hasCase(int number) {
            return number >= 0 && number < cases;
        }

        boolean hasSet(int set) {
            return set >= 0 && set >> words == 0;
        }

        /** The states in which all words of a set hold. */
        long together(int set) {
            long states = -1L;
            for (int w = 0; w < words; w++) {
                if ((set >> w & 1) != 0) {
                    states &= holds[w];
                }
            }
            return states;
        }

        /** The states in which a fact is as it is. */
        long asItIs(int fact) {
            if (fact < 0 || fact >= MAX_FACTS) {
                return everything;
            }
            return (truths >> fact & 1) != 0 ? WHERE_TRUE[fact] : ~WHERE_TRUE[fact];
        }

        /** The witnesses of whom a word is caught. */
        int liarsBy(int caught) {
            int liars = 0;
            for (int i = 0; i < witnesses; i++) {
                liars |= (wordsOf[i] & caught) != 0 ? 1 << i : 0;
            }
            return liars;
        }
    }

    /** How things stand at one moment, and how they go on from it. */
    private static final class State {
        private int clock;
        private int said;
        private int caught;
        private int open;
        private int heard;
        /** The states of things that may be as facts are open. */
        private long may;
        /** The cases heard since this was last set to 0. */
        private int met;
        /** A minute, and whether the clock came to it since this was last set to false. */
        private int watched;
        private boolean came;
        /** Searches do not ask for verdicts: their states keep no record of each case. */
        private final boolean records;
        private final int[] times = new int[MAX_CASES];
        private final int[] verdicts = new int[MAX_CASES];
        private final int[] shares = new int[MAX_WITNESSES];

        State(boolean keepsRecords) {
            records = keepsRecords;
        }

        void begin(Told told) {
            clock = told.begin;
            said = 0;
            caught = 0;
            open = told.opens;
            heard = 0;
            may = told.everything;
            for (int f = 0; f < told.facts; f++) {
                if ((open >> f & 1) != 0) {
                    may &= told.asItIs(f);
                }
            }
            Arrays.fill(times, 0);
            Arrays.fill(verdicts, NOTHING);
            Arrays.fill(shares, 0);
        }

        void copyFrom(State other) {
            copyMoment(other);
            System.arraycopy(other.times, 0, times, 0, MAX_CASES);
            System.arraycopy(other.verdicts, 0, verdicts, 0, MAX_CASES);
            System.arraycopy(other.shares, 0, shares, 0, MAX_WITNESSES);
        }

        /** All that decides how the clock goes on. */
        void copyMoment(State other) {
            clock = other.clock;
            said = other.said;
            caught = other.caught;
            open = other.open;
            heard = other.heard;
            may = other.may;
        }

        /** Says a word that the text has: 1 if one is caught, else 2 if FORTH was asked, else 0. */
        int utter(Told told, int word) {
            goForward(told, 1);
            int bit = 1 << word;
            int witness = told.teller[word];
            // One that is caught was said: it can't be new.
            boolean isNew = (said & bit) == 0;
            said |= bit;
            boolean asked = isNew && (told.selfs & told.trueWords & bit) != 0;
            if (asked) {
                int minutes = told.forth.minutes(this, told.wordsOf[witness]);
                shares[witness] += minutes;
                goForward(told, minutes);
            }
            if (examine(told, witness) > 0) {
                return 1;
            }
            return asked ? 2 : 0;
        }

        /** Opens a fact that the text has: how many words are caught. */
        int reveal(Told told, int fact) {
            goForward(told, 1);
            open |= 1 << fact;
            may &= told.asItIs(fact);
            int lies = 0;
            for (int i = 0; i < told.witnesses; i++) {
                lies += examine(told, i);
            }
            return lies;
        }

        /** Nothing is said on the way, so the order in which cases are heard on it makes no difference. */
        void goForward(Told told, int minutes) {
            int from = clock;
            int to = Math.min(from + minutes, TOP);
            for (int c = 0; c < told.cases; c++) {
                if (told.due[c] > from && told.due[c] <= to) {
                    hear(told, c);
                }
            }
            came |= watched > from && watched <= to;
            clock = to;
        }

        private void hear(Told told, int number) {
            heard++;
            met |= 1 << number;
            if (records) {
                times[number]++;
                verdicts[number] = verdictOf(told, number);
            }
        }

        int verdictOf(Told told, int number) {
            long left = may & told.together(said & ~caught);
            if (left == 0) {
                return 3;
            }
            long guilty = left & told.guilt[number];
            if (guilty == left) {
                return 1;
            }
            return guilty == 0 ? 0 : 2;
        }

        /** Looks at a witness: how many of his words are caught. */
        private int examine(Told told, int witness) {
            int his = told.wordsOf[witness];
            int live = his & said & ~caught;
            int untrue = live & ~told.trueWords;
            // True words stand together: the state of things as it is may be.
            if (untrue == 0 || (may & told.together(live)) != 0) {
                return 0;
            }
            for (int w = 0; w < told.words; w++) {
                if ((untrue >> w & 1) != 0) {
                    int minutes = told.back.minutes(this, his);
                    caught |= 1 << w;
                    shares[witness] -= minutes;
                    clock = Math.max(clock - minutes, -TOP);
                }
            }
            return Integer.bitCount(untrue);
        }

        /** A variable of a law, for the witness of whom these words are. */
        int valueOf(int kind, int his) {
            switch (kind) {
                case LIES: return Integer.bitCount(caught & his);
                case SAID: return Integer.bitCount(said & his);
                case MINUTE: return Math.floorMod(clock, DAY);
                case HEARD: return heard;
                default: return Integer.bitCount(open);
            }
        }
    }

    /** Fewest things, each of which leaves fewer states, so that too few are left. */
    private static final class Sets {
        private final long[] leaves = new long[MAX_WORDS];
        private final int[] numbers = new int[MAX_WORDS];
        /** What is left by all things ahead of one. */
        private final long[] below = new long[MAX_WORDS + 1];
        private int size;
        private long first;
        private long second;

        void takeWords(Told told, int set) {
            size = 0;
            for (int w = 0; w < told.words; w++) {
                if ((set >> w & 1) != 0) {
                    add(w, told.holds[w]);
                }
            }
        }

        void takeFacts(Told told, int open) {
            size = 0;
            for (int f = 0; f < told.facts; f++) {
                if ((open >> f & 1) == 0) {
                    add(f, told.asItIs(f));
                }
            }
        }

        private void add(int number, long left) {
            if (size < MAX_WORDS) {
                leaves[size] = left;
                numbers[size] = number;
                size++;
            }
        }

        /** The bits of the fewest with which none of 'one' or none of 'other' is left of the states. */
        int fewest(long states, long one, long other) {
            first = one;
            second = other;
            if (isEnough(states)) {
                return 0;
            }
            below[0] = -1L;
            for (int i = 0; i < size; i++) {
                below[i + 1] = below[i] & leaves[i];
            }
            if (!isEnough(states & below[size])) {
                return NOTHING;
            }
            for (int n = 1; n <= size; n++) {
                int bits = pick(n, size, states);
                if (bits != 0) {
                    return bits;
                }
            }
            return NOTHING;
        }

        private boolean isEnough(long states) {
            return (states & first) == 0 || (states & second) == 0;
        }

        /** The least bits of n things with numbers below the limit; 0 if there are none. */
        private int pick(int n, int limit, long states) {
            for (int i = n - 1; i >= 0 && i < limit && i < size; i++) {
                long left = states & leaves[i];
                if (n == 1) {
                    if (isEnough(left)) {
                        return 1 << numbers[i];
                    }
                } else if (isEnough(left & below[i])) {
                    int rest = pick(n - 1, i, left);
                    if (rest != 0) {
                        return rest | 1 << numbers[i];
                    }
                }
            }
            return 0;
        }
    }

    /** All orders of a few words, each said once. */
    private static final class Orders {
        private final State[] frames = new State[MAX_ORDER + 1];
        private final int[] path = new int[MAX_ORDER];
        private final int[] best = new int[MAX_ORDER];
        private int bestClock;
        private boolean found;
        /** What the best is known for, till something happens. */
        private boolean known;
        private int knownSet;
        private boolean knownLate;

        Orders() {
            for (int i = 0; i <= MAX_ORDER; i++) {
                frames[i] = new State(false);
            }
        }

        void find(Told told, State now, int set, boolean late) {
            if (known && knownSet == set && knownLate == late) {
                return;
            }
            known = true;
            knownSet = set;
            knownLate = late;
            found = false;
            frames[0].copyMoment(now);
            extend(told, set, 0);
        }

        private void extend(Told told, int left, int depth) {
            if (left == 0 || depth < 0 || depth >= MAX_ORDER) {
                judge(frames[Math.max(0, Math.min(depth, MAX_ORDER))].clock);
                return;
            }
            State next = frames[depth + 1];
            for (int w = 0; w < told.words; w++) {
                if ((left >> w & 1) != 0) {
                    next.copyMoment(frames[depth]);
                    next.utter(told, w);
                    path[depth] = w;
                    extend(told, left & ~(1 << w), depth + 1);
                }
            }
        }

        /** Orders come by numbers: one that is no better than an earlier one is passed over. */
        private void judge(int clock) {
            if (found && (knownLate ? clock <= bestClock : clock >= bestClock)) {
                return;
            }
            found = true;
            bestClock = clock;
            System.arraycopy(path, 0, best, 0, MAX_ORDER);
        }

        boolean canAvoid(Told told, State now, int set, int minute) {
            frames[0].copyMoment(now);
            return avoids(told, set, minute, 0);
        }

        private boolean avoids(Told told, int left, int minute, int depth) {
            if (left == 0 || depth < 0 || depth >= MAX_ORDER) {
                return true;
            }
            State next = frames[depth + 1];
            for (int w = 0; w < told.words; w++) {
                if ((left >> w & 1) != 0) {
                    next.copyMoment(frames[depth]);
                    next.watched = minute;
                    next.came = false;
                    next.utter(told, w);
                    if (!next.came && avoids(told, left & ~(1 << w), minute, depth + 1)) {
                        return true;
                    }
                }
            }
            return false;
        }
    }

    /** Moments that a search has come to; the same one is kept once, for rows of words soon meet again. */
    private static final class Nodes {
        private static final int LEAST_ROOM = 256;
        private static final int MOST_ROOM = 1 << 17;
        private static final int SAID_BITS = 0xFFFF;
        private int[] words = new int[LEAST_ROOM];
        private int[] clocks = new int[LEAST_ROOM];
        private int[] heards = new int[LEAST_ROOM];
        /** The node ahead times MAX_WORDS, and the word between. */
        private int[] from = new int[LEAST_ROOM];
        private long[] rows = new long[LEAST_ROOM];
        /** Nodes by their hash, each plus 1; twice the room, so that some are always free. */
        private int[] table = new int[2 * LEAST_ROOM];
        private int size;

        void clear() {
            size = 0;
            Arrays.fill(table, 0);
        }

        /** Brings a state to a node; what is open in it stays. */
        void load(int node, State state) {
            if (node >= 0 && node < size) {
                state.clock = clocks[node];
                state.said = words[node] & SAID_BITS;
                state.caught = words[node] >>> MAX_WORDS;
                state.heard = heards[node];
            }
        }

        /** Takes a moment in, or adds its rows to the same one's among the nodes from 'floor' on. */
        void add(State state, int cameFrom, long more, int floor) {
            int slot = slotOf(state, floor);
            if (slot >= 0 && table[slot] > 0) {
                rows[table[slot] - 1] += more;
                return;
            }
            if (size >= words.length) {
                grow();
                slot = slotOf(state, floor);
            }
            if (slot < 0 || size >= words.length) {
                return;
            }
            words[size] = packed(state);
            clocks[size] = state.clock;
            heards[size] = state.heard;
            from[size] = cameFrom;
            rows[size] = more;
            size++;
            table[slot] = size;
        }

        private static int packed(State state) {
            return state.said | state.caught << MAX_WORDS;
        }

        private static int hash(int words, int clock, int heard) {
            int h = words * 0x9E3779B1 + clock * 0x85EBCA6B + heard * 0xC2B2AE35;
            return h ^ h >>> 15;
        }

        /** Where in the table a moment stands, or would. */
        private int slotOf(State state, int floor) {
            int wanted = packed(state);
            int mask = table.length - 1;
            int start = hash(wanted, state.clock, state.heard);
            for (int i = 0; i < table.length; i++) {
                int slot = start + i & mask;
                int node = table[slot] - 1;
                if (node < 0 || node >= floor && words[node] == wanted
                        && clocks[node] == state.clock && heards[node] == state.heard) {
                    return slot;
                }
            }
            return NONE;
        }

        private void grow() {
            int room = 2 * words.length;
            if (room > MOST_ROOM) {
                return;
            }
            words = Arrays.copyOf(words, room);
            clocks = Arrays.copyOf(clocks, room);
            heards = Arrays.copyOf(heards, room);
            from = Arrays.copyOf(from, room);
            rows = Arrays.copyOf(rows, room);
            table = new int[2 * room];
            for (int node = 0; node < size; node++) {
                table[freeSlot(hash(words[node], clocks[node], heards[node]))] = node + 1;
            }
        }

        private int freeSlot(int start) {
            int mask = table.length - 1;
            for (int i = 0; i < table.length; i++) {
                if (table[start + i & mask] == 0) {
                    return start + i & mask;
                }
            }
            return 0;
        }
    }

    /** The fewest words by which a case is heard ahead of another one. */
    private static final class Ahead {
        private final Nodes nodes;
        private final State probe = new State(false);
        private final int[] path = new int[MAX_AHEAD];
        private int length;
        private int lies;
        /** What the path is known for, till something happens. */
        private boolean known;
        private int knownA;
        private int knownB;

        Ahead(Nodes shared) {
            nodes = shared;
        }

        void find(Told told, State now, int a, int b) {
            if (known && knownA == a && knownB == b) {
                return;
            }
            known = true;
            knownA = a;
            knownB = b;
            length = 0;
            lies = 0;
            nodes.clear();
            probe.copyMoment(now);
            nodes.add(probe, 0, 1, 0);
            int begin = 0;
            for (int level = 1; level <= MAX_AHEAD && length == 0; level++) {
                int end = nodes.size;
                for (int node = begin; node < end && length == 0; node++) {
                    if (canCome(told.due[a] - nodes.clocks[node], MAX_AHEAD - level + 1)) {
                        expand(told, node, level);
                    }
                }
                begin = end;
            }
        }

        /** Whether so few words may bring the clock to a minute so far off; the last one only from ahead of it. */
        private static boolean canCome(int off, int wordsLeft) {
            return off <= wordsLeft * (1 + LONGEST_LAW) && (wordsLeft > 1 || off > 0);
        }

        /** Nodes stand by their rows of words, so the first row that is found is the first by numbers. */
        private void expand(Told told, int node, int level) {
            int said = nodes.words[node] & Nodes.SAID_BITS;
            int firstSaid = said & -said;
            for (int w = 0; w < told.words; w++) {
                // To say again what is said does the same for each: only the first of them is tried.
                if ((said >> w & 1) != 0 && 1 << w != firstSaid) {
                    continue;
                }
                nodes.load(node, probe);
                probe.met = 0;
                probe.utter(told, w);
                if ((probe.met >> knownB & 1) != 0) {
                    continue;
                }
                if ((probe.met >> knownA & 1) != 0) {
                    keepPath(told, node, w, level);
                    return;
                }
                if (level < MAX_AHEAD) {
                    nodes.add(probe, node * MAX_WORDS + w, 1, 0);
                }
            }
        }

        private void keepPath(Told told, int lastNode, int lastWord, int level) {
            int node = lastNode;
            int word = lastWord;
            length = level;
            for (int i = level - 1; i >= 0 && i < MAX_AHEAD; i--) {
                path[i] = word;
                lies += (told.trueWords >> word & 1) == 0 ? 1 : 0;
                if (node >= 0 && node < nodes.size) {
                    word = nodes.from[node] % MAX_WORDS;
                    node = nodes.from[node] / MAX_WORDS;
                }
            }
        }
    }

    /** The clock's readings, and all that may have been said between them. */
    private static final class Book {
        private final Nodes nodes;
        private final State probe = new State(false);
        private final int[] readings = new int[MAX_READINGS];
        private int size;
        /** What fits the first k readings, for each k of which it is known. */
        private final boolean[] known = new boolean[MAX_READINGS + 1];
        private final long[] rows = new long[MAX_READINGS + 1];
        private final int[] sure = new int[MAX_READINGS + 1];
        private final int[] liarsIn = new int[MAX_READINGS + 1];

        Book(Nodes shared) {
            nodes = shared;
        }

        void clear() {
            size = 0;
            for (int k = 0; k <= MAX_READINGS; k++) {
                known[k] = false;
            }
        }

        int add(int reading) {
            if (size >= MAX_READINGS) {
                return NONE;
            }
            readings[size] = reading;
            size++;
            return size - 1;
        }

        /** Finds all that fits the first k readings, of which there are so many. */
        void find(Told told, int k) {
            if (known[k]) {
                return;
            }
            known[k] = true;
            rows[k] = k == 0 ? 1 : 0;
            sure[k] = k == 0 ? 0 : (1 << told.words) - 1;
            liarsIn[k] = k == 0 ? 0 : (1 << told.witnesses) - 1;
            nodes.clear();
            probe.begin(told);
            nodes.add(probe, 0, 1, 0);
            int begin = 0;
            for (int level = 1; level <= k; level++) {
                int end = nodes.size;
                for (int node = begin; node < end; node++) {
                    expand(told, node, level, k, end);
                }
                begin = end;
            }
            if (rows[k] == 0) {
                sure[k] = 0;
                liarsIn[k] = 0;
            }
        }

        private void expand(Told told, int node, int level, int k, int floor) {
            int said = nodes.words[node] & Nodes.SAID_BITS;
            int firstSaid = said & -said;
            long before = nodes.rows[node];
            for (int w = 0; w < told.words; w++) {
                boolean again = (said >> w & 1) != 0;
                // To say again what is said does the same for each: the first of them stands for all.
                if (again && 1 << w != firstSaid) {
                    continue;
                }
                nodes.load(node, probe);
                probe.utter(told, w);
                if (probe.clock != readings[level - 1]) {
                    continue;
                }
                long more = again ? before * Integer.bitCount(said) : before;
                if (level < k) {
                    nodes.add(probe, 0, more, floor);
                } else {
                    rows[k] += more;
                    sure[k] &= probe.said;
                    liarsIn[k] &= told.liarsBy(probe.caught);
                }
            }
        }
    }
}
