import java.util.Arrays;

/**
 * A pure first-order Lisp: functions are told by texts, terms evaluated with fuel, what was told
 * can be taken back or told anew. Words in capitals are those of the document.
 */
public final class LispMachine {
    public static final int NONE = -1;

    private static final int MOST_TEXT = 3000;
    private static final int MOST_WAITING = 20;
    private static final int MOST_OUT = 2000;
    private static final int MOST_WORDS = 1000;
    private static final int MOST_LETTERS = 11;
    private static final int MOST_FUEL = 1000;
    private static final int MOST_SIZE = 120;
    private static final int MOST_PARAMETERS = 6;
    private static final int MOST_FUNCTIONS = 40;
    private static final long MOST_NATURAL = (1L << 62) - 1;

    private static final int DONE = 0;
    private static final int UNREADABLE = 1;
    private static final int NOT_AS_TOLD = 2;
    private static final int WRONG_NAME = 3;
    private static final int FAULT_OF_WORK = 4;
    private static final int NO_ROOM = 8;

    // A symbol is spelled by one number whose digits are the places of its characters in LETTERS;
    // the blank at place 0 keeps that digit free, so no two symbols have the same number.
    private static final String LETTERS = " abcdefghijklmnopqrstuvwxyz0123456789+-*/<>=?!_";
    private static final int LETTER_BASE = 47;
    private static final long LETTER_BASE_TO_10 = 52599132235830049L;

    // The symbols that the language itself knows are the first objects of every store, in this
    // order, so that a switch can tell them. The RESERVED ones stand in front, NOT being their last.
    private static final String KNOWN = "nil t quote if equal cons implies + - < consp car cdr natp symbolp height not eval with map defun redo undo show ";
    private static final int NIL = 0;
    private static final int TRUE = 1;
    private static final int QUOTE = 2;
    private static final int IF = 3;
    private static final int EQUAL = 4;
    private static final int CONS = 5;
    private static final int IMPLIES = 6;
    private static final int PLUS = 7;
    private static final int MINUS = 8;
    private static final int LESS = 9;
    private static final int CONSP = 10;
    private static final int CAR = 11;
    private static final int CDR = 12;
    private static final int NATP = 13;
    private static final int SYMBOLP = 14;
    private static final int HEIGHT = 15;
    private static final int NOT = 16;
    private static final int EVAL = 17;
    private static final int WITH = 18;
    private static final int MAP = 19;
    private static final int DEFUN = 20;
    private static final int REDO = 21;
    private static final int UNDO = 22;
    private static final int SHOW = 23;

    // How many terms each RESERVED name takes, by its number; -1 where it is no function.
    private static final int[] BASE_TAKES = {-1, -1, -1, 3, 2, 2, 2, 2, 2, 2, 1, 1, 1, 1, 1, 1, 1};

    private final int[] waiting = new int[MOST_WAITING / 4];
    private final Store store;
    private final Reader reader;
    private final Teller teller;
    private final Functions functions;
    private final Evaluator evaluator;
    private final Commands commands;

    public LispMachine() {
        store = new Store();
        reader = new Reader(store);
        teller = new Teller(store);
        functions = new Functions();
        evaluator = new Evaluator(store, functions);
        commands = new Commands(store, functions, evaluator);
    }

    public void feed(int a, int b, int c, int d, int e) {
        waiting[0] = a;
        waiting[1] = b;
        waiting[2] = c;
        waiting[3] = d;
        waiting[4] = e;
    }

    public int end(int n) {
        if (n < 0 || n > MOST_WAITING || n > MOST_TEXT - reader.length) {
            return NONE;
        }
        for (int i = 0; i < n; i++) {
            reader.append((char) (waiting[i / 4] >>> (24 - i % 4 * 8) & 255));
        }
        Arrays.fill(waiting, 0);
        return reader.length;
    }

    public int fuel(int n) {
        if (n < 1 || n > MOST_FUEL) {
            return NONE;
        }
        int before = evaluator.fuel;
        evaluator.fuel = n;
        return before;
    }

    public int run() {
        teller.clear();
        evaluator.clear();
        store.forgetFrom(commands.kept);
        if (!store.makeRoom(commands.roomFor(reader.length))) {
            reader.clear();
            return NO_ROOM;
        }
        int object = reader.read();
        if (object == NONE) {
            return UNREADABLE;
        }
        int answer = commands.perform(object);
        if (answer == DONE) {
            teller.tell(commands.result);
        }
        return answer;
    }

    public int fault(int what) {
        switch (what) {
            case 0:
                return reader.fault;
            case 1:
                return reader.place;
            case 2:
                return evaluator.fault;
            default:
                return NONE;
        }
    }

    public int steps() {
        return evaluator.steps;
    }

    public int functions() {
        return functions.count;
    }

    public int size() {
        return teller.length;
    }

    public int letter(int k) {
        return teller.characterAt(k);
    }

    /**
     * All OBJECTS, each held once and known by its number: two objects are equal just when their
     * numbers are. So equal costs nothing even where sharing makes an object's tree huge.
     */
    private static final class Store {
        // What stands in the place of the second object where there is no pair.
        private static final int NATURAL = -1;
        private static final int SYMBOL = -2;
        private static final int FIRST_ROOM = 2048;
        // 512 calls bring at most 5120 characters, each of which makes at most two objects that
        // functions keep; with what one run needs beside them that is less than this.
        private static final int MOST_ROOM = 16384;
        private static final int BUCKETS = 1024;
        private static final int BUCKET_SHIFT = 54;

        // A pair's first object, a natural's amount or a symbol's spelling.
        private long[] left = new long[FIRST_ROOM];
        // A pair's second object, NATURAL or SYMBOL.
        private int[] right = new int[FIRST_ROOM];
        private int[] height = new int[FIRST_ROOM];
        // Objects of one bucket stand in a chain, the newest first, so that the newest can go.
        private int[] next = new int[FIRST_ROOM];
        private final int[] buckets = new int[BUCKETS];
        private int count;

        Store() {
            Arrays.fill(buckets, NONE);
            long spelling = 0;
            for (int i = 0; i < KNOWN.length(); i++) {
                int digit = LETTERS.indexOf(KNOWN.charAt(i));
                if (digit > 0) {
                    spelling = spelling * LETTER_BASE + digit;
                } else {
                    hold(spelling, SYMBOL, 0);
                    spelling = 0;
                }
            }
        }

        int natural(long amount) {
            return hold(amount, NATURAL, 0);
        }

        int symbol(long spelling) {
            return hold(spelling, SYMBOL, 0);
        }

        int pair(int head, int tail) {
            return hold(head, tail, Math.max(heightOf(head), heightOf(tail)) + 1);
        }

        boolean isPair(int object) {
            return object >= 0 && object < count && right[object] >= 0;
        }

        boolean isNatural(int object) {
            return object >= 0 && object < count && right[object] == NATURAL;
        }

        boolean isSymbol(int object) {
            return object >= 0 && object < count && right[object] == SYMBOL;
        }

        boolean isVariable(int object) {
            return isSymbol(object) && object != NIL && object != TRUE;
        }

        /** Whether an object is a list (quote X). */
        boolean isQuoted(int object) {
            return head(object) == QUOTE && isPair(tail(object)) && tail(tail(object)) == NIL;
        }

        int head(int object) {
            return isPair(object) ? (int) left[object] : NIL;
        }

        int tail(int object) {
            return isPair(object) ? right[object] : NIL;
        }

        int second(int object) {
            return head(tail(object));
        }

        int third(int object) {
            return head(tail(tail(object)));
        }

        int fourth(int object) {
            return head(tail(tail(tail(object))));
        }

        int heightOf(int object) {
            return object >= 0 && object < count ? height[object] : 0;
        }

        /** What an object counts as in sums: all but naturals as 0. */
        long amount(int object) {
            return isNatural(object) ? left[object] : 0;
        }

        long spelling(int object) {
            return isSymbol(object) ? left[object] : 0;
        }

        /** How many elements a list has; NONE of what is no list. */
        int lengthOf(int list) {
            int rest = list;
            for (int n = 0; n <= count; n++) {
                if (rest == NIL) {
                    return n;
                }
                if (!isPair(rest)) {
                    return NONE;
                }
                rest = tail(rest);
            }
            return NONE;
        }

        boolean isElement(int object, int list) {
            int rest = list;
            for (int n = 0; n < count && isPair(rest); n++) {
                if (head(rest) == object) {
                    return true;
                }
                rest = tail(rest);
            }
            return false;
        }

        /** Grows until so many more objects can be held; false, if it must not grow so far. */
        boolean makeRoom(int more) {
            int room = FIRST_ROOM;
            while (room < count + more && room < MOST_ROOM) {
                room *= 2;
            }
            if (room > right.length) {
                left = Arrays.copyOf(left, room);
                right = Arrays.copyOf(right, room);
                height = Arrays.copyOf(height, room);
                next = Arrays.copyOf(next, room);
            }
            return right.length >= count + more;
        }

        /** Forgets every object from this number on; none before it can have one in it. */
        void forgetFrom(int number) {
            for (int object = count - 1; object >= number && object > NOT; object--) {
                buckets[bucketOf(left[object], right[object])] = next[object];
                count = object;
            }
        }

        private int hold(long itsLeft, int itsRight, int itsHeight) {
            int bucket = bucketOf(itsLeft, itsRight);
            int found = buckets[bucket];
            for (int n = 0; n < count && found >= 0 && found < count; n++) {
                if (left[found] == itsLeft && right[found] == itsRight) {
                    return found;
                }
                found = next[found];
            }
            // Room was made ahead of the run, so this is only a guard.
            if (count >= right.length) {
                return NIL;
            }
            left[count] = itsLeft;
            right[count] = itsRight;
            height[count] = itsHeight;
            next[count] = buckets[bucket];
            buckets[bucket] = count;
            return count++;
        }

        private static int bucketOf(long itsLeft, int itsRight) {
            long mixed = (itsLeft * 0x9E3779B97F4A7C15L + itsRight) * 0xBF58476D1CE4E5B9L;
            return (int) (mixed >>> BUCKET_SHIFT);
        }
    }

    /** The TEXT, and READING it. */
    private static final class Reader {
        private static final int MOST_OPEN = 40;

        private static final int NO_WORD = 1;
        private static final int TOO_LARGE = 2;
        private static final int MISPLACED = 3;
        private static final int TOO_MANY_OPEN = 4;
        private static final int TOO_MANY_WORDS = 5;

        // What a place in the text waits for.
        private static final int THE_OBJECT = 0;
        private static final int THE_END = 1;
        private static final int FIRST_OR_CLOSE = 2;
        private static final int MORE_DOT_OR_CLOSE = 3;
        private static final int LAST = 4;
        private static final int CLOSE = 5;
        private static final int QUOTED = 6;

        private final Store store;
        private final char[] text = new char[MOST_TEXT];
        private int length;
        private int fault;
        private int place = NONE;

        // Objects whose list is still open; those of open list k begin at firstItem[k].
        private final int[] items = new int[MOST_WORDS];
        private int itemCount;
        private final int[] firstItem = new int[MOST_OPEN + 1];
        private final int[] awaited = new int[MOST_OPEN + 1];
        private int open;
        private int words;

        // The atom that was scanned last.
        private boolean digitsAlone;
        private long amount;
        private long spelling;

        Reader(Store store) {
            this.store = store;
        }

        void append(char character) {
            if (length < MOST_TEXT) {
                text[length] = character;
                length++;
            }
        }

        void clear() {
            length = 0;
            fault = 0;
            place = NONE;
            itemCount = 0;
            open = 0;
            words = 0;
            awaited[0] = THE_OBJECT;
        }

        /** The text's object, or NONE with a fault and its place; the text is empty then. */
        int read() {
            int textLength = length;
            clear();
            int at = behindBlanks(0, textLength);
            for (int n = 0; n <= MOST_WORDS && at < textLength && fault == 0; n++) {
                int behind = behindWord(at, textLength);
                fault = faultOfWord(at, behind);
                if (fault == 0) {
                    take(text[at]);
                    at = behindBlanks(behind, textLength);
                }
            }
            if (fault == 0 && awaited[0] != THE_END) {
                fault = MISPLACED;
            }
            if (fault != 0) {
                place = at;
                return NONE;
            }
            return items[0];
        }

        private int behindBlanks(int from, int textLength) {
            boolean inComment = false;
            for (int at = from; at < textLength; at++) {
                char character = text[at];
                if (character == '\n') {
                    inComment = false;
                } else if (character == ';') {
                    inComment = true;
                } else if (character != ' ' && !inComment) {
                    return at;
                }
            }
            return textLength;
        }

        private int behindWord(int from, int textLength) {
            int at = from;
            while (at < textLength && isAtomLetter(text[at])) {
                at++;
            }
            return at == from ? from + 1 : at;
        }

        /** The least fault that a word has at its place, 0 without one. */
        private int faultOfWord(int from, int behind) {
            char first = text[from];
            boolean opens = first == '(' || first == '\'';
            if (!opens && first != ')' && first != '.' && !isAtomLetter(first)) {
                return NO_WORD;
            }
            if (isAtomLetter(first) && !scanAtom(from, behind)) {
                return TOO_LARGE;
            }
            if (!mayStand(first)) {
                return MISPLACED;
            }
            if (opens && open >= MOST_OPEN) {
                return TOO_MANY_OPEN;
            }
            return words >= MOST_WORDS ? TOO_MANY_WORDS : 0;
        }

        private static boolean isAtomLetter(char character) {
            return LETTERS.indexOf(character) > 0;
        }

        /** False for an atom that is longer or greater than it may be. */
        private boolean scanAtom(int from, int behind) {
            digitsAlone = true;
            amount = 0;
            spelling = 0;
            for (int at = from; at < behind; at++) {
                int digit = text[at] - '0';
                spelling = spelling * LETTER_BASE + LETTERS.indexOf(text[at]);
                if (digit < 0 || digit > 9) {
                    digitsAlone = false;
                } else if (amount > (MOST_NATURAL - digit) / 10) {
                    amount = MOST_NATURAL + 1;
                } else {
                    amount = amount * 10 + digit;
                }
            }
            return digitsAlone ? amount <= MOST_NATURAL : behind - from <= MOST_LETTERS;
        }

        private boolean mayStand(char first) {
            int here = awaited[open];
            if (first == ')') {
                return here == FIRST_OR_CLOSE || here == MORE_DOT_OR_CLOSE || here == CLOSE;
            }
            if (first == '.') {
                return here == MORE_DOT_OR_CLOSE;
            }
            return here != CLOSE && here != THE_END;
        }

        private void take(char first) {
            words++;
            switch (first) {
                case '(':
                    openAt(FIRST_OR_CLOSE);
                    break;
                case '\'':
                    openAt(QUOTED);
                    break;
                case '.':
                    awaited[open] = LAST;
                    break;
                case ')':
                    closeList();
                    break;
                default:
                    finish(digitsAlone ? store.natural(amount) : store.symbol(spelling));
            }
        }

        private void openAt(int waitsFor) {
            if (open < MOST_OPEN) {
                open++;
                awaited[open] = waitsFor;
                firstItem[open] = itemCount;
            }
        }

        private void closeList() {
            int list = NIL;
            if (awaited[open] == CLOSE && itemCount > 0) {
                itemCount--;
                list = items[itemCount];
            }
            while (itemCount > firstItem[open] && itemCount > 0) {
                itemCount--;
                list = store.pair(items[itemCount], list);
            }
            if (open > 0) {
                open--;
            }
            finish(list);
        }

        /** Puts an object that has ended where it belongs; each ' that waited for it ends too. */
        private void finish(int object) {
            int whole = object;
            while (open > 0 && awaited[open] == QUOTED) {
                open--;
                whole = store.pair(QUOTE, store.pair(whole, NIL));
            }
            if (itemCount < MOST_WORDS) {
                items[itemCount] = whole;
                itemCount++;
            }
            if (awaited[open] == THE_OBJECT) {
                awaited[open] = THE_END;
            } else {
                awaited[open] = awaited[open] == LAST ? CLOSE : MORE_DOT_OR_CLOSE;
            }
        }
    }

    /** OUT, and how objects are TOLD in it. */
    private static final class Teller {
        private static final long TEN_TO_18 = 1000000000000000000L;

        private final Store store;
        private final char[] out = new char[MOST_OUT];
        private int length;
        // What is still to be told of the lists that are open; each of them has put a ( in OUT.
        private final int[] rests = new int[MOST_OUT];
        private int open;

        Teller(Store store) {
            this.store = store;
        }

        void clear() {
            length = 0;
        }

        int characterAt(int k) {
            return k >= 0 && k < length ? out[k] : NONE;
        }

        void tell(int object) {
            open = 0;
            int next = object;
            // Each turn puts at least one character, so OUT is full behind the last one.
            for (int n = 0; n < MOST_OUT && next != NONE; n++) {
                next = beginObject(next);
            }
        }

        /** Tells what comes ahead of the next object, which it answers: NONE at the end. */
        private int beginObject(int object) {
            if (store.isQuoted(object)) {
                put('\'');
                return store.second(object);
            }
            if (store.isPair(object)) {
                put('(');
                return beginRest(object);
            }
            putAtom(object);
            return goOn();
        }

        private int beginRest(int pair) {
            if (open < MOST_OUT) {
                rests[open] = store.tail(pair);
                open++;
            }
            return store.head(pair);
        }

        private int goOn() {
            while (open > 0) {
                open--;
                int rest = rests[open];
                if (store.isPair(rest)) {
                    put(' ');
                    return beginRest(rest);
                }
                if (rest != NIL) {
                    put(' ');
                    put('.');
                    put(' ');
                    putAtom(rest);
                }
                put(')');
            }
            return NONE;
        }

        private void putAtom(int atom) {
            if (store.isNatural(atom)) {
                putNatural(store.amount(atom));
            } else {
                putSymbol(store.spelling(atom));
            }
        }

        private void putNatural(long amount) {
            for (long unit = TEN_TO_18; unit > 0; unit /= 10) {
                if (amount >= unit || unit == 1) {
                    put((char) ('0' + amount / unit % 10));
                }
            }
        }

        private void putSymbol(long spelling) {
            for (long unit = LETTER_BASE_TO_10; unit > 0; unit /= LETTER_BASE) {
                if (spelling >= unit) {
                    put(LETTERS.charAt((int) (spelling / unit % LETTER_BASE)));
                }
            }
        }

        private void put(char character) {
            if (length < MOST_OUT) {
                out[length] = character;
                length++;
            }
        }
    }

    /** A DEFINED function; a redo changes its parameters and body, and nothing else. */
    private static final class Definition {
        private final int name;
        private final int takes;
        private int parameters;
        private int body;

        Definition(int name, int takes, int parameters, int body) {
            this.name = name;
            this.takes = takes;
            this.parameters = parameters;
            this.body = body;
        }
    }

    /** The DEFINED functions, in the order in which they were DEFINED. */
    private static final class Functions {
        private final Definition[] table = new Definition[MOST_FUNCTIONS];
        private int count;

        /** The function of this name, null if none is DEFINED. */
        Definition find(int name) {
            for (int i = 0; i < count && i < MOST_FUNCTIONS; i++) {
                Definition definition = table[i];
                if (definition != null && definition.name == name) {
                    return definition;
                }
            }
            return null;
        }

        Definition at(int i) {
            return i >= 0 && i < count && i < MOST_FUNCTIONS ? table[i] : null;
        }

        boolean isFull() {
            return count >= MOST_FUNCTIONS;
        }

        void add(Definition definition) {
            if (!isFull()) {
                table[count] = definition;
                count++;
            }
        }

        void removeLast() {
            if (count > 0) {
                count--;
                table[count] = null;
            }
        }
    }

    /** What is a TERM, and what stands in it. */
    private static final class Terms {
        private final Store store;
        private final Functions functions;
        // A term's parts, itself first, then level by level: so the terms that a call takes stand
        // side by side, behind those of all calls ahead of it. Their number is the term's SIZE.
        private final int[] parts = new int[MOST_SIZE];
        private int count;

        Terms(Store store, Functions functions) {
            this.store = store;
            this.functions = functions;
        }

        /** Whether it is a term with these variables alone, own being a function of ownTakes terms. */
        boolean isTerm(int object, int variables, int own, int ownTakes) {
            startWith(object);
            for (int i = 0; i < count && i < MOST_SIZE; i++) {
                int part = parts[i];
                if (store.isVariable(part)) {
                    if (!store.isElement(part, variables)) {
                        return false;
                    }
                } else if (store.isPair(part) && !store.isQuoted(part)) {
                    int name = store.head(part);
                    int takes = name == own ? ownTakes : takesOf(name);
                    if (takes == NONE || takes != store.lengthOf(store.tail(part)) || !addTermsOf(part)) {
                        return false;
                    }
                }
            }
            return true;
        }

        boolean isCalled(int name, int term) {
            gather(term);
            for (int i = 0; i < count && i < MOST_SIZE; i++) {
                if (isCall(parts[i]) && store.head(parts[i]) == name) {
                    return true;
                }
            }
            return false;
        }

        /** The same term, its constants without quote where they are told without. */
        int plain(int term) {
            gather(term);
            int behind = count;
            for (int i = count - 1; i >= 0; i--) {
                int part = parts[i];
                if (isCall(part)) {
                    int first = behind - store.lengthOf(store.tail(part));
                    parts[i] = store.pair(store.head(part), listOfParts(first, behind));
                    behind = first;
                } else if (store.isQuoted(part) && isPlainConstant(store.second(part))) {
                    parts[i] = store.second(part);
                }
            }
            return parts[0];
        }

        private void startWith(int term) {
            parts[0] = term;
            count = 1;
        }

        private void gather(int term) {
            startWith(term);
            for (int i = 0; i < count && i < MOST_SIZE; i++) {
                if (isCall(parts[i])) {
                    addTermsOf(parts[i]);
                }
            }
        }

        /** False when the term would become too large. */
        private boolean addTermsOf(int call) {
            int rest = store.tail(call);
            while (count < MOST_SIZE && store.isPair(rest)) {
                parts[count] = store.head(rest);
                count++;
                rest = store.tail(rest);
            }
            return rest == NIL;
        }

        private int listOfParts(int first, int behind) {
            int list = NIL;
            for (int i = behind - 1; i >= first && i >= 0; i--) {
                list = store.pair(parts[i], list);
            }
            return list;
        }

        private int takesOf(int name) {
            if (name >= 0 && name < BASE_TAKES.length) {
                return BASE_TAKES[name];
            }
            Definition definition = functions.find(name);
            return definition == null ? NONE : definition.takes;
        }

        private boolean isCall(int term) {
            return store.isPair(term) && store.head(term) != QUOTE;
        }

        private boolean isPlainConstant(int object) {
            return store.isNatural(object) || object == NIL || object == TRUE;
        }
    }

    /** A call that is not ended. */
    private static final class Call {
        private final int[] values = new int[MOST_PARAMETERS];
        private int valueCount;
        private int name;
        private Definition definition;
        private int termsLeft;
        // The call whose values the variables of these terms have; null for the outermost term.
        private Call scope;
        // Whether a body, or what an if chose, is evaluated: its value is the call's own.
        private boolean entered;

        void start(int itsName, Definition itsDefinition, int terms, Call itsScope) {
            name = itsName;
            definition = itsDefinition;
            termsLeft = terms;
            scope = itsScope;
            valueCount = 0;
            entered = false;
        }

        void add(int value) {
            if (valueCount < MOST_PARAMETERS) {
                values[valueCount] = value;
                valueCount++;
            }
        }
    }

    /**
     * Evaluates terms with fuel. It keeps the open calls in a row of its own, since 300 of them
     * would be too many for methods that call themselves.
     */
    private static final class Evaluator {
        private static final int MOST_OPEN = 300;
        // A step has at most 6 terms, a value and a body, so 1000 of them need far fewer turns.
        private static final int MOST_TURNS = 1000000;

        private static final int OUT_OF_FUEL = 1;
        private static final int TOO_DEEP = 2;
        private static final int TOO_GREAT = 3;

        private static final int BEGIN_TERM = 0;
        private static final int HAND_OVER_VALUE = 1;
        private static final int GO_ON_WITH_CALL = 2;

        private final Store store;
        private final Functions functions;
        private final Call[] calls = new Call[MOST_OPEN];
        private int open;
        private int fuel = MOST_FUEL;
        private int steps;
        private int fault;
        private int bindings;

        // What the next turn does, and with what.
        private int move;
        private int term;
        private Call scope;
        private int value;

        Evaluator(Store store, Functions functions) {
            this.store = store;
            this.functions = functions;
        }

        void clear() {
            steps = 0;
            fault = 0;
        }

        /** Begins a term whose variables have the values of a list ((x V) ..). */
        void beginWith(int itsBindings, int itsTerm) {
            open = 0;
            bindings = itsBindings;
            evaluateNext(itsTerm, null);
        }

        /** Begins a call of a function of one term, whose value is there already. */
        void beginCall(Definition definition, int argument) {
            open = 0;
            scope = null;
            openCall(definition.name, NIL);
            if (fault == 0 && calls[0] != null) {
                calls[0].add(argument);
            }
        }

        /** Does what was begun: its value, or NONE with a fault. */
        int finish() {
            for (int n = 0; n < MOST_TURNS && fault == 0; n++) {
                Call call = open > 0 && open <= MOST_OPEN ? calls[open - 1] : null;
                if (move == BEGIN_TERM) {
                    beginTerm();
                } else if (call == null) {
                    return value;
                } else if (move == HAND_OVER_VALUE) {
                    handOverValue(call);
                } else if (store.isPair(call.termsLeft)) {
                    evaluateNext(store.head(call.termsLeft), call.scope);
                    call.termsLeft = store.tail(call.termsLeft);
                } else if (call.definition != null) {
                    call.entered = true;
                    evaluateNext(call.definition.body, call);
                } else {
                    applyBase(call);
                }
            }
            return NONE;
        }

        private void evaluateNext(int itsTerm, Call itsScope) {
            term = itsTerm;
            scope = itsScope;
            move = BEGIN_TERM;
        }

        private void beginTerm() {
            if (store.isVariable(term)) {
                answer(scope == null ? boundValueOf(term) : argumentOf(scope, term));
            } else if (!store.isPair(term)) {
                answer(term);
            } else if (store.head(term) == QUOTE) {
                answer(store.second(term));
            } else {
                openCall(store.head(term), store.tail(term));
            }
        }

        private void answer(int itsValue) {
            value = itsValue;
            move = HAND_OVER_VALUE;
        }

        private int argumentOf(Call call, int variable) {
            int rest = call.definition == null ? NIL : call.definition.parameters;
            for (int i = 0; i < MOST_PARAMETERS; i++) {
                if (store.head(rest) == variable) {
                    return call.values[i];
                }
                rest = store.tail(rest);
            }
            return NIL;
        }

        private int boundValueOf(int variable) {
            int rest = bindings;
            for (int n = 0; n < MOST_WORDS && store.isPair(rest); n++) {
                if (store.head(store.head(rest)) == variable) {
                    return store.head(store.tail(store.head(rest)));
                }
                rest = store.tail(rest);
            }
            return NIL;
        }

        private void openCall(int name, int terms) {
            if (open >= MOST_OPEN) {
                fault = TOO_DEEP;
                return;
            }
            if (steps >= fuel) {
                fault = OUT_OF_FUEL;
                return;
            }
            steps++;
            if (calls[open] == null) {
                calls[open] = new Call();
            }
            Call call = calls[open];
            open++;
            call.start(name, functions.find(name), terms, scope);
            move = GO_ON_WITH_CALL;
        }

        private void handOverValue(Call call) {
            if (call.entered) {
                open--;
            } else if (call.name == IF) {
                call.entered = true;
                int others = call.termsLeft;
                evaluateNext(value != NIL ? store.head(others) : store.second(others), call.scope);
            } else {
                call.add(value);
                move = GO_ON_WITH_CALL;
            }
        }

        private void applyBase(Call call) {
            int a = call.values[0];
            int b = call.values[1];
            open--;
            switch (call.name) {
                case EQUAL:
                    answer(truth(a == b));
                    break;
                case CONS:
                    answer(store.pair(a, b));
                    break;
                case IMPLIES:
                    answer(truth(a == NIL || b != NIL));
                    break;
                case PLUS:
                    long sum = store.amount(a) + store.amount(b);
                    fault = sum > MOST_NATURAL ? TOO_GREAT : 0;
                    answer(sum > MOST_NATURAL ? NIL : store.natural(sum));
                    break;
                case MINUS:
                    answer(store.natural(Math.max(store.amount(a) - store.amount(b), 0)));
                    break;
                case LESS:
                    answer(truth(store.amount(a) < store.amount(b)));
                    break;
                case CONSP:
                    answer(truth(store.isPair(a)));
                    break;
                case CAR:
                    answer(store.head(a));
                    break;
                case CDR:
                    answer(store.tail(a));
                    break;
                case NATP:
                    answer(truth(store.isNatural(a)));
                    break;
                case SYMBOLP:
                    answer(truth(store.isSymbol(a)));
                    break;
                case HEIGHT:
                    answer(store.natural(store.heightOf(a)));
                    break;
                default:
                    answer(truth(a == NIL));
            }
        }

        private static int truth(boolean holds) {
            return holds ? TRUE : NIL;
        }
    }

    /** The COMMANDS. */
    private static final class Commands {
        // Beside three objects for each word, a run makes at most one for each step, and show at
        // most two for each part of a term.
        private static final int ROOM_BESIDE_WORDS = MOST_FUEL + 2 * MOST_SIZE + 10;

        private final Store store;
        private final Functions functions;
        private final Evaluator evaluator;
        private final Terms terms;
        // What the latest command that was done has to tell; NONE if nothing.
        private int result;
        // The number of the first object that no function needs.
        private int kept;

        Commands(Store store, Functions functions, Evaluator evaluator) {
            this.store = store;
            this.functions = functions;
            this.evaluator = evaluator;
            terms = new Terms(store, functions);
            kept = store.count;
        }

        /** How many objects may be made by running a text that has so many characters. */
        int roomFor(int characters) {
            return 3 * Math.min(characters, MOST_WORDS) + ROOM_BESIDE_WORDS;
        }

        int perform(int command) {
            int length = store.lengthOf(command);
            int second = store.second(command);
            int third = store.third(command);
            result = NONE;
            switch (store.head(command)) {
                case EVAL:
                    return length == 2 ? evaluate(NIL, NIL, second) : NOT_AS_TOLD;
                case WITH:
                    return length == 3 ? evaluate(boundVariables(second), second, third) : NOT_AS_TOLD;
                case MAP:
                    return length == 3 ? map(second, third) : NOT_AS_TOLD;
                case DEFUN:
                    return length == 4 ? define(second, third, store.fourth(command)) : NOT_AS_TOLD;
                case REDO:
                    return length == 4 ? defineAnew(second, third, store.fourth(command)) : NOT_AS_TOLD;
                case UNDO:
                    return length == 1 ? undo() : NOT_AS_TOLD;
                case SHOW:
                    return length == 2 ? show(second) : NOT_AS_TOLD;
                default:
                    return NOT_AS_TOLD;
            }
        }

        private int evaluate(int variables, int bindings, int term) {
            if (variables == NONE || !terms.isTerm(term, variables, NONE, NONE)) {
                return NOT_AS_TOLD;
            }
            evaluator.beginWith(bindings, term);
            int value = evaluator.finish();
            if (evaluator.fault != 0) {
                return FAULT_OF_WORK;
            }
            result = value;
            return DONE;
        }

        /** The variables of a list ((x V) ..); NONE if it isn't as told. */
        private int boundVariables(int bindings) {
            int count = store.lengthOf(bindings);
            int variables = NIL;
            int rest = bindings;
            for (int i = 0; i < count; i++) {
                int binding = store.head(rest);
                int variable = store.head(binding);
                if (store.lengthOf(binding) != 2 || !store.isVariable(variable)
                        || store.isElement(variable, variables)) {
                    return NONE;
                }
                variables = store.pair(variable, variables);
                rest = store.tail(rest);
            }
            return count == NONE ? NONE : variables;
        }

        private int map(int name, int list) {
            int count = store.lengthOf(list);
            if (!isFunctionName(name) || count == NONE) {
                return NOT_AS_TOLD;
            }
            Definition definition = functions.find(name);
            if (definition == null) {
                return WRONG_NAME;
            }
            if (definition.takes != 1) {
                return NOT_AS_TOLD;
            }
            int backwards = NIL;
            int rest = list;
            for (int i = 0; i < count; i++) {
                evaluator.beginCall(definition, store.head(rest));
                int value = evaluator.finish();
                if (evaluator.fault != 0) {
                    return FAULT_OF_WORK;
                }
                backwards = store.pair(value, backwards);
                rest = store.tail(rest);
            }
            result = reversed(backwards, count);
            return DONE;
        }

        private int reversed(int list, int count) {
            int forwards = NIL;
            int rest = list;
            for (int i = 0; i < count; i++) {
                forwards = store.pair(store.head(rest), forwards);
                rest = store.tail(rest);
            }
            return forwards;
        }

        private int define(int name, int parameters, int body) {
            if (!isDefinition(name, parameters, body)) {
                return NOT_AS_TOLD;
            }
            if (functions.find(name) != null) {
                return WRONG_NAME;
            }
            if (functions.isFull()) {
                return NO_ROOM;
            }
            functions.add(new Definition(name, store.lengthOf(parameters), parameters, body));
            kept = store.count;
            return DONE;
        }

        private int defineAnew(int name, int parameters, int body) {
            if (!isDefinition(name, parameters, body)) {
                return NOT_AS_TOLD;
            }
            Definition definition = functions.find(name);
            if (definition == null) {
                return WRONG_NAME;
            }
            if (definition.takes != store.lengthOf(parameters)) {
                return NOT_AS_TOLD;
            }
            definition.parameters = parameters;
            definition.body = body;
            kept = store.count;
            return DONE;
        }

        private boolean isDefinition(int name, int parameters, int body) {
            return isFunctionName(name) && areParameters(parameters)
                    && terms.isTerm(body, parameters, name, store.lengthOf(parameters));
        }

        private int undo() {
            Definition last = functions.at(functions.count - 1);
            if (last == null) {
                return WRONG_NAME;
            }
            for (int i = 0; i < functions.count - 1; i++) {
                Definition other = functions.at(i);
                if (other != null && terms.isCalled(last.name, other.body)) {
                    return WRONG_NAME;
                }
            }
            functions.removeLast();
            return DONE;
        }

        private int show(int name) {
            if (!isFunctionName(name)) {
                return NOT_AS_TOLD;
            }
            Definition definition = functions.find(name);
            if (definition == null) {
                return WRONG_NAME;
            }
            int list = store.pair(terms.plain(definition.body), NIL);
            list = store.pair(definition.parameters, list);
            list = store.pair(definition.name, list);
            result = store.pair(DEFUN, list);
            return DONE;
        }

        private boolean isFunctionName(int object) {
            return store.isSymbol(object) && object > NOT;
        }

        private boolean areParameters(int list) {
            int count = store.lengthOf(list);
            if (count == NONE || count > MOST_PARAMETERS) {
                return false;
            }
            int rest = list;
            for (int i = 0; i < count; i++) {
                int parameter = store.head(rest);
                rest = store.tail(rest);
                if (!store.isVariable(parameter) || store.isElement(parameter, rest)) {
                    return false;
                }
            }
            return true;
        }
    }
}
