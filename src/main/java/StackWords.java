import java.util.Arrays;

/** Code for two-stack processors; the numbered promises are those of shared/DOC.md. */
public final class StackWords {
    public static final int NONE = -1;

    private static final int MOST_BYTES = 1600;
    private static final int MOST_WORDS = 6;
    private static final int MOST_ITEMS_OF_A_WORD = 20;
    private static final int MOST_ITEMS = 60;
    private static final int MOST_OPEN = 4;
    private static final int MOST_NEEDS = 6;
    private static final int MOST_HIGH = 12;
    private static final int MOST_PUSHED = 6;
    private static final int MOST_STEPS = 2000;
    private static final int MOST_LETTERS = 8;
    private static final int MOST_DIGITS = 4;
    private static final int MOST_UNITS = 30;
    private static final int MOST_FORMULA_DEPTH = 6;
    private static final int MOST_CELLS = 24;
    private static final int MOST_ACTS = 40;
    private static final int MOST_SEEN = 30;
    private static final int MOST_TIME = 100000;
    private static final int MOST_LATER = 1000;
    private static final int BOXES = 3;
    private static final int TRIED_CELLS = 3;
    private static final int GREATEST = 2147483647;

    private static final int NO_HEIGHT = -100;
    private static final int NOTHING_LIES = -2;
    private static final int NOT_COMPARABLE = -2;

    private static final int FAULT_TOKEN = 1;
    private static final int FAULT_PLACE = 2;
    private static final int FAULT_TOLD = 3;
    private static final int FAULT_NUMBER = 4;
    private static final int FAULT_UNKNOWN = 5;
    private static final int FAULT_JOIN = 6;
    private static final int FAULT_DEPTH = 7;

    private static final int DUP = 0;
    private static final int DROP = 1;
    private static final int SWAP = 2;
    private static final int OVER = 3;
    private static final int ROT = 4;
    private static final int NIP = 5;
    private static final int TUCK = 6;
    private static final int PUSH = 7;
    private static final int POP = 8;
    private static final int ADD = 9;
    private static final int SUB = 10;
    private static final int MUL = 11;
    private static final int NEG = 12;
    private static final int LESS = 13;
    private static final int SAME = 14;
    private static final int THINGS = 15;
    private static final int SHUFFLES = 7;

    /** How many cells each THING takes off the STACK, and how many it lays there. */
    private static final int[] OFF = {1, 1, 2, 2, 3, 2, 2, 1, 0, 2, 2, 2, 1, 2, 2};
    private static final int[] ON = {2, 0, 2, 3, 3, 1, 3, 0, 1, 1, 1, 1, 1, 1, 1};
    /** Which cells each SHUFFLE lays, three places each: told from the top, 0, as they were ahead of it. */
    private static final int[] SHUFFLED = {0, 0, 0, 0, 0, 0, 0, 1, 0, 1, 0, 1, 1, 0, 2, 0, 0, 0, 0, 1, 0};

    private static final int SORT_THING = 0;
    private static final int SORT_NUMBER = 1;
    private static final int SORT_CALL = 2;
    private static final int SORT_IF = 3;
    private static final int SORT_ELSE = 4;
    private static final int SORT_THEN = 5;
    private static final int SORT_TIMES = 6;
    private static final int SORT_NEXT = 7;

    private static final int FORMS = 3;
    private static final int TOKEN_FORM = 2;
    private static final int KINDS = 19;
    private static final int KIND_NUMBER = 15;
    private static final int KIND_CALL = 16;
    private static final int KIND_IF = 17;
    private static final int KIND_TIMES = 18;
    private static final int MOST_TAKEN = 99;

    /** Each word that stands for itself in so many places; the THINGS first, so that a key below THINGS is one. */
    private static final int KEY_WIDTH = 5;
    private static final String KEYS =
        "dup  drop swap over rot  nip  tuck push pop  add  sub  mul  neg  less same if   else then timesnext word takesflipsdraw or   and  not  form kind ";
    private static final int KEY_IF = 15;
    private static final int KEY_ELSE = 16;
    private static final int KEY_THEN = 17;
    private static final int KEY_TIMES = 18;
    private static final int KEY_NEXT = 19;
    private static final int KEY_WORD = 20;
    private static final int KEY_TAKES = 21;
    private static final int KEY_FLIPS = 22;
    private static final int KEY_DRAW = 23;
    private static final int KEY_OR = 24;
    private static final int KEY_AND = 25;
    private static final int KEY_NOT = 26;
    private static final int KEY_FORM = 27;
    private static final int KEY_KIND = 28;

    private int tapeLength;
    private Code current = new Code();
    private Code spare = new Code();
    private final Runner runner = new Runner();
    private final Reader reader = new Reader();
    private final Timeline acts = new Timeline();
    private final State[] boxes = new State[BOXES];
    private int keptBoxes;
    private final State scratch = new State();
    private final Costs costs = new Costs();
    private final Shuffler shuffler = new Shuffler();
    private final Sightings sightings = new Sightings();
    private int now;
    private int lastFault;
    private int lastFaultPlace = NONE;

    public StackWords() {
        for (int box = 0; box < BOXES; box++) {
            boxes[box] = new State();
        }
    }

    public int feed(int a, int b, int c, int d, int e) {
        if (tapeLength + 20 > MOST_BYTES) {
            return NONE;
        }
        append(a);
        append(b);
        append(c);
        append(d);
        append(e);
        return tapeLength;
    }

    public int end(int n) {
        if (n < 0 || n > tapeLength) {
            return NONE;
        }
        tapeLength = n;
        return n;
    }

    public int code() {
        boolean good = reader.readAll(spare, tapeLength);
        lastFault = reader.scanner.fault;
        lastFaultPlace = reader.scanner.faultPlace;
        if (!good) {
            return NONE;
        }
        Code old = current;
        current = spare;
        spare = old;
        tapeLength = 0;
        acts.restart().begin(current.draw);
        keptBoxes = 0;
        sightings.forget();
        shuffler.found = 0;
        return current.words;
    }

    public int fault(int what) {
        switch (what) {
            case 0: return lastFault;
            case 1: return lastFaultPlace;
            default: return NONE;
        }
    }

    public int word(int word, int what) {
        if (!current.hasWord(word)) {
            return NONE;
        }
        switch (what) {
            case 0: return current.start[word + 1] - current.start[word];
            case 1: return current.needs[word];
            case 2: return current.leaves[word];
            case 3: return current.high[word];
            case 4: return current.most[word];
            case 5: return current.steps[word];
            case 6: return acts.state().inlined >> word & 1;
            default: return NONE;
        }
    }

    public int item(int word, int i, int what) {
        if (!current.hasItem(word, i)) {
            return NONE;
        }
        int at = current.start[word] + i;
        switch (what) {
            case 0: return current.sort[at];
            case 1: return current.value[at];
            default: return NONE;
        }
    }

    public int lay(int n) {
        if (n < 0 || n > 9999 || acts.state().count >= MOST_CELLS) {
            return NONE;
        }
        State state = acts.begin();
        state.add(n);
        return state.count;
    }

    public int run(int thing) {
        if (thing < 0 || thing >= THINGS || !acts.state().canByHand(thing)) {
            return NONE;
        }
        State state = acts.begin();
        state.perform(thing);
        return state.count;
    }

    public int call(int word) {
        if (!current.hasWord(word)) {
            return NONE;
        }
        int cells = acts.state().count;
        if (cells < current.needs[word] || cells + current.high[word] > MOST_CELLS) {
            return NONE;
        }
        State state = acts.begin();
        runner.doWord(current, state, word);
        return state.count;
    }

    public int clear() {
        int cells = acts.state().count + acts.state().putCount;
        if (cells == 0) {
            return NONE;
        }
        acts.begin().dropAll();
        return cells;
    }

    public int inline(int word) {
        if (!current.hasWord(word)) {
            return NONE;
        }
        State state = acts.begin();
        state.inlined ^= 1 << word;
        return state.inlined;
    }

    public int flip() {
        return acts.begin().turnBit(current.flips);
    }

    public boolean undo() {
        return acts.stepBack();
    }

    public boolean redo() {
        return acts.stepOn();
    }

    public int cell(int i) {
        return acts.state().cellAt(i);
    }

    public int put(int i) {
        return acts.state().putAt(i);
    }

    public int comes(int word, int a, int b, int c, int i) {
        if (!current.hasWord(word) || current.needs[word] > TRIED_CELLS) {
            return 0;
        }
        scratch.beginWith(a, b, c);
        runner.doWord(current, scratch, word);
        return scratch.cellAt(i);
    }

    public int alike(int word, int other) {
        if (!current.hasWord(word) || !current.hasWord(other)) {
            return NONE;
        }
        return runner.firstDifference(current, word, other) == NONE ? 1 : 0;
    }

    public int differs(int word, int other) {
        if (!current.hasWord(word) || !current.hasWord(other)) {
            return NONE;
        }
        return Math.max(NONE, runner.firstDifference(current, word, other));
    }

    public int shortest(int n, int row) {
        return shuffler.findShortest(n, shuffler.rowOf(n, row));
    }

    public int cheapest(int n, int row) {
        return shuffler.findCheapest(n, shuffler.rowOf(n, row), current.taken);
    }

    public int shuffled(int n, int shuffles) {
        return shuffler.follow(n, shuffles);
    }

    public int tidy(int word) {
        return current.hasWord(word) ? shuffler.saved(current, word) : NONE;
    }

    public int takes(int form, int kind) {
        if (!isForm(form) || kind < 0 || kind >= KINDS) {
            return NONE;
        }
        return current.taken[form * KINDS + kind];
    }

    public int time(int word, int form) {
        if (!current.hasWord(word) || !isForm(form)) {
            return NONE;
        }
        costs.priceByForm(current, form);
        return costs.timeOf(current, acts.state().inlined, word);
    }

    public int room(int word, int form) {
        if (!current.hasWord(word) || !isForm(form)) {
            return NONE;
        }
        return costs.roomOf(current, acts.state().inlined, word, form);
    }

    public int best(int word) {
        return current.hasWord(word) ? costs.bestForm(current, acts.state().inlined, word) : NONE;
    }

    public int total(int form) {
        if (!isForm(form)) {
            return NONE;
        }
        int sum = 0;
        int inlined = acts.state().inlined;
        for (int word = 0; word < current.words; word++) {
            if ((inlined >> word & 1) == 0) {
                sum += costs.roomOf(current, inlined, word, form);
            }
        }
        return sum;
    }

    public int calls(int word) {
        return current.hasWord(word) ? current.calledIn(word) : NONE;
    }

    public int callers(int word) {
        return current.hasWord(word) ? current.reaching(word) : NONE;
    }

    public int nested(int word) {
        return current.hasWord(word) ? costs.openCalls(current, word) : NONE;
    }

    public int pick(int form) {
        if (!isForm(form) || current.words == 0) {
            return NONE;
        }
        costs.priceByForm(current, form);
        return costs.bestToInline(current, acts.state().inlined);
    }

    public int commonest() {
        int found = NONE;
        int most = 0;
        for (int thing = 0; thing < THINGS; thing++) {
            int often = current.countOf(thing);
            if (often > most) {
                most = often;
                found = thing;
            }
        }
        return found;
    }

    public int height(int word, int i) {
        return current.hasItem(word, i) ? current.behind[current.start[word] + i] : NO_HEIGHT;
    }

    public int pure() {
        int bits = 0;
        for (int word = 0; word < current.words; word++) {
            if (current.isPure(word)) {
                bits |= 1 << word;
            }
        }
        return bits;
    }

    public int law(int n) {
        if (current.words == 0 || n < 0 || n > MOST_TAKEN) {
            return NONE;
        }
        costs.priceAlike(n);
        return costs.timeOf(current, acts.state().inlined, current.words - 1);
    }

    public int odds(int n, int part) {
        if (n < 0 || n > 4 || part < 0 || part > 1) {
            return NONE;
        }
        int base = part == 0 ? 100 - current.flips : 100;
        // A power of lowest terms is in lowest terms, and so small that it stays an int.
        int lowest = base / commonDivisor(100, 100 - current.flips);
        int power = 1;
        for (int go = 0; go < n; go++) {
            power *= lowest;
        }
        return power;
    }

    public int lies(int i) {
        return i >= 0 && i < shuffler.found ? shuffler.lying[i] : NOTHING_LIES;
    }

    public int seen(int a, int b, int c, int top, boolean is) {
        if (current.words == 0 || !isDigit(a) || !isDigit(b) || !isDigit(c)) {
            return NONE;
        }
        return sightings.tell(a * 100 + b * 10 + c, top, is, now);
    }

    public boolean untell(int seen) {
        return sightings.takeBack(seen, now);
    }

    public int later(int by) {
        if (by < 0 || by > MOST_LATER || now + by > MOST_TIME) {
            return NONE;
        }
        now += by;
        return now;
    }

    public int fits(int k) {
        return sightings.collect(current, k);
    }

    public int fit(int i, int k) {
        int many = sightings.collect(current, k);
        return i >= 0 && i < many ? sightings.fitting[i] : NONE;
    }

    public int ask(int a, int b, int what, int k) {
        if (!isDigit(a) || !isDigit(b) || what < 0 || what > 1) {
            return NONE;
        }
        if (sightings.collect(current, k) == 0) {
            return NONE;
        }
        int c = sightings.nextToTry(current, a * 10 + b);
        return what == 0 ? c : sightings.leftAtMost(current, a * 100 + b * 10 + c);
    }

    public int image(int box) {
        if (box < 0 || box >= BOXES) {
            return NONE;
        }
        keptBoxes |= 1 << box;
        boxes[box].copyFrom(acts.state());
        return boxes[box].count;
    }

    public int back(int box) {
        if (box < 0 || box >= BOXES || (keptBoxes >> box & 1) == 0) {
            return NONE;
        }
        acts.restart().copyFrom(boxes[box]);
        return boxes[box].count;
    }

    public int about(int what) {
        switch (what) {
            case 0: return current.words;
            case 1: return current.items;
            case 2: return acts.state().count;
            case 3: return acts.state().putCount;
            case 4: return acts.state().inlined;
            case 5: return acts.state().seed;
            case 6: return acts.done;
            case 7: return acts.known - acts.done;
            case 8: return sightings.many;
            case 9: return now;
            case 10: return tapeLength;
            case 11: return current.units;
            case 12: return shuffler.found;
            case 13: return current.flips;
            default: return NONE;
        }
    }

    private void append(int number) {
        for (int shift = 24; shift >= 0 && tapeLength < MOST_BYTES; shift -= 8) {
            reader.scanner.text[tapeLength] = (byte) (number >> shift);
            tapeLength++;
        }
    }

    private static boolean isForm(int form) {
        return form >= 0 && form < FORMS;
    }

    private static boolean isDigit(int n) {
        return n >= 0 && n <= 9;
    }

    private static int commonDivisor(int a, int b) {
        int greater = a;
        int rest = b;
        for (int round = 0; round < 100 && rest != 0; round++) {
            int next = greater % rest;
            greater = rest;
            rest = next;
        }
        return Math.max(1, greater);
    }

    /** What a text tells; ITEMS of all WORDS stand in one row, so that an ITEM's number is its own over the whole CODE. */
    private static final class Code {
        int words;
        int items;
        int units;
        int flips;
        int draw;
        final int[] sort = new int[MOST_ITEMS];
        final int[] value = new int[MOST_ITEMS];
        /** Where an if, an else goes on when it jumps, and to which times a next goes back. */
        final int[] partner = new int[MOST_ITEMS];
        final int[] behind = new int[MOST_ITEMS];
        /** One more than there are WORDS: the next one's first ITEM ends the one ahead. */
        final int[] start = new int[MOST_WORDS + 1];
        final int[] needs = new int[MOST_WORDS];
        final int[] leaves = new int[MOST_WORDS];
        final int[] high = new int[MOST_WORDS];
        final int[] most = new int[MOST_WORDS];
        final int[] steps = new int[MOST_WORDS];
        final int[] taken = new int[FORMS * KINDS];

        Code() {
            takePlainly();
        }

        void empty() {
            words = 0;
            items = 0;
            units = 0;
            flips = 0;
            draw = 0;
            start[0] = 0;
            takePlainly();
        }

        private void takePlainly() {
            for (int at = 0; at < taken.length; at++) {
                taken[at] = 1 + at / KINDS;
            }
        }

        boolean hasWord(int word) {
            return word >= 0 && word < words;
        }

        boolean hasItem(int word, int i) {
            return hasWord(word) && i >= 0 && i < start[word + 1] - start[word];
        }

        int calledIn(int word) {
            int bits = 0;
            for (int i = start[word]; i < start[word + 1]; i++) {
                if (sort[i] == SORT_CALL) {
                    bits |= 1 << value[i];
                }
            }
            return bits;
        }

        int reaching(int word) {
            int bits = 0;
            // A WORD calls those told ahead of it alone, so one way through finds those which call by others.
            for (int other = word + 1; other < words; other++) {
                if ((calledIn(other) & (bits | 1 << word)) != 0) {
                    bits |= 1 << other;
                }
            }
            return bits;
        }

        int countOf(int thing) {
            int often = 0;
            for (int i = 0; i < items; i++) {
                if (sort[i] == SORT_THING && value[i] == thing) {
                    often++;
                }
            }
            return often;
        }

        boolean isShuffle(int i) {
            return sort[i] == SORT_THING && value[i] < SHUFFLES;
        }

        boolean isPure(int word) {
            for (int i = start[word]; i < start[word + 1]; i++) {
                if (!isShuffle(i)) {
                    return false;
                }
            }
            return true;
        }
    }

    /** Goes over the text TOKEN by TOKEN, and keeps the first FAULT that is told. */
    private static final class Scanner {
        static final int END = 0;
        static final int BAD = 1;
        static final int NUMBER = 2;
        static final int SIGN = 3;
        static final int KEY = 4;
        static final int NAME = 5;
        static final String SIGNS = ";()<>=+-*/%";

        /** The TAPE. */
        final byte[] text = new byte[MOST_BYTES];
        private int length;
        private int next;
        int place;
        int sort;
        int value;
        long name;
        int fault;
        int faultPlace = NONE;

        void begin(int newLength) {
            length = Math.min(newLength, MOST_BYTES);
            next = 0;
            fault = 0;
            faultPlace = NONE;
            advance();
        }

        boolean goesOn() {
            return fault == 0 && sort != END;
        }

        boolean isSign(char sign) {
            return sort == SIGN && value == sign;
        }

        boolean isKey(int key) {
            return sort == KEY && value == key;
        }

        void fail(int what) {
            if (fault == 0) {
                fault = what;
                faultPlace = place;
            }
        }

        /** What is no TOKEN at all is told as that: at one place the least FAULT counts. */
        void refuse() {
            fail(sort == BAD ? FAULT_TOKEN : FAULT_PLACE);
        }

        void require(char sign) {
            if (!isSign(sign)) {
                refuse();
            }
        }

        void advance() {
            while (next < length && (text[next] == 32 || text[next] == 10)) {
                next++;
            }
            place = next;
            value = NONE;
            if (next >= length) {
                sort = END;
            } else if (isLetterAt(next)) {
                readLetters();
                value = sort == NAME ? keyFrom(place, next) : NONE;
                sort = value == NONE ? sort : KEY;
            } else if (isDigitAt(next)) {
                readDigits();
            } else if (text[next] > 0 && SIGNS.indexOf((char) text[next]) >= 0) {
                sort = SIGN;
                value = text[next];
                next++;
            } else {
                sort = BAD;
            }
        }

        private void readLetters() {
            name = 0;
            while (next < length && isLetterAt(next)) {
                name = name * 32 + (text[next] - 'a' + 1);
                next++;
            }
            sort = next - place <= MOST_LETTERS ? NAME : BAD;
        }

        private void readDigits() {
            int number = 0;
            while (next < length && isDigitAt(next)) {
                number = number * 10 + (text[next] - '0');
                next++;
            }
            boolean good = next - place <= MOST_DIGITS && !(next < length && isLetterAt(next));
            sort = good ? NUMBER : BAD;
            value = number;
        }

        private int keyFrom(int from, int upTo) {
            if (upTo - from > KEY_WIDTH) {
                return NONE;
            }
            for (int key = 0; (key + 1) * KEY_WIDTH <= KEYS.length(); key++) {
                int same = 0;
                while (same < KEY_WIDTH
                        && KEYS.charAt(key * KEY_WIDTH + same) == (from + same < upTo ? (char) text[from + same] : ' ')) {
                    same++;
                }
                if (same == KEY_WIDTH) {
                    return key;
                }
            }
            return NONE;
        }

        private boolean isLetterAt(int at) {
            return text[at] >= 'a' && text[at] <= 'z';
        }

        private boolean isDigitAt(int at) {
            return text[at] >= '0' && text[at] <= '9';
        }
    }

    /** What each KIND TAKES, read into a row of operands and operators behind them, so that it can be worked out often. */
    private static final class Formula {
        static final int OF_FORM = -1;
        static final int OF_KIND = -2;
        static final int OR = -3;
        static final int AND = -4;
        static final int NOT = -5;
        static final int BELOW = -6;
        static final int ABOVE = -7;
        static final int EQUAL = -8;
        static final int PLUS = -9;
        static final int MINUS = -10;
        static final int TIMES = -11;
        static final int DIVIDED = -12;
        static final int REST = -13;

        static final int LEVEL_OR = 0;
        static final int LEVEL_AND = 1;
        static final int LEVEL_ONE = 2;
        static final int LEVEL_SUM = 3;
        static final int LEVEL_TERM = 4;
        static final int LEVEL_UNIT = 5;

        private Scanner scanner;
        /** Units, operators between them, and as many nots ahead of each as can stand within one another. */
        private final int[] row = new int[MOST_UNITS * (3 + MOST_FORMULA_DEPTH)];
        private final int[] stack = new int[MOST_UNITS + 1];
        private int length;
        int units;

        void begin(Scanner newScanner) {
            scanner = newScanner;
            length = 0;
            units = 0;
        }

        private void readLevel(int level, int depth) {
            if (level >= LEVEL_UNIT) {
                readUnit(depth);
                return;
            }
            if (level == LEVEL_ONE && scanner.isKey(KEY_NOT)) {
                readNot(depth);
                return;
            }
            readLevel(level + 1, depth);
            int most = level == LEVEL_ONE ? 1 : MOST_UNITS;
            for (int n = 0; n < most && scanner.fault == 0; n++) {
                int operator = operatorOf(level);
                if (operator == NONE) {
                    return;
                }
                scanner.advance();
                readLevel(level + 1, depth);
                append(operator);
            }
        }

        private void readNot(int depth) {
            if (depth > MOST_FORMULA_DEPTH) {
                scanner.refuse();
                return;
            }
            scanner.advance();
            readLevel(LEVEL_ONE, depth + 1);
            append(NOT);
        }

        private void readUnit(int depth) {
            if (scanner.fault != 0) {
                return;
            }
            if (units >= MOST_UNITS) {
                scanner.refuse();
                return;
            }
            units++;
            if (scanner.isSign('(') && depth <= MOST_FORMULA_DEPTH) {
                scanner.advance();
                readLevel(LEVEL_OR, depth + 1);
                scanner.require(')');
            } else if (scanner.sort == Scanner.NUMBER) {
                append(scanner.value);
            } else if (scanner.isKey(KEY_FORM)) {
                append(OF_FORM);
            } else if (scanner.isKey(KEY_KIND)) {
                append(OF_KIND);
            } else {
                scanner.refuse();
            }
            if (scanner.fault == 0) {
                scanner.advance();
            }
        }

        private int operatorOf(int level) {
            switch (level) {
                case LEVEL_OR: return scanner.isKey(KEY_OR) ? OR : NONE;
                case LEVEL_AND: return scanner.isKey(KEY_AND) ? AND : NONE;
                case LEVEL_ONE: return scanner.isSign('<') ? BELOW : scanner.isSign('>') ? ABOVE : scanner.isSign('=') ? EQUAL : NONE;
                case LEVEL_SUM: return scanner.isSign('+') ? PLUS : scanner.isSign('-') ? MINUS : NONE;
                case LEVEL_TERM: return scanner.isSign('*') ? TIMES : scanner.isSign('/') ? DIVIDED : scanner.isSign('%') ? REST : NONE;
                default: return NONE;
            }
        }

        private void append(int what) {
            if (length < row.length) {
                row[length] = what;
                length++;
            }
        }

        void fill(int[] taken) {
            for (int at = 0; at < taken.length; at++) {
                taken[at] = Math.max(0, Math.min(MOST_TAKEN, valueFor(at / KINDS, at % KINDS)));
            }
        }

        private int valueFor(int form, int kind) {
            int count = 0;
            for (int at = 0; at < length; at++) {
                int what = row[at];
                if (what >= OF_KIND) {
                    if (count < stack.length) {
                        stack[count] = what == OF_FORM ? form : what == OF_KIND ? kind : what;
                        count++;
                    }
                } else if (what == NOT) {
                    if (count >= 1) {
                        stack[count - 1] = truth(stack[count - 1] == 0);
                    }
                } else if (count >= 2) {
                    stack[count - 2] = join(what, stack[count - 2], stack[count - 1]);
                    count--;
                }
            }
            return count >= 1 ? stack[count - 1] : 0;
        }

        private static int join(int operator, int a, int b) {
            switch (operator) {
                case OR: return truth(a != 0 || b != 0);
                case AND: return truth(a != 0 && b != 0);
                case BELOW: return truth(a < b);
                case ABOVE: return truth(a > b);
                case EQUAL: return truth(a == b);
                case PLUS: return a + b;
                case MINUS: return a - b;
                case TIMES: return a * b;
                case DIVIDED: return b == 0 ? 0 : a / b;
                case REST: return b == 0 ? 0 : a % b;
                default: return 0;
            }
        }

        private static int truth(boolean is) {
            return is ? 1 : 0;
        }
    }

    /** Reads a text into a CODE; every FAULT is told where it is met, so the first met is the first by its place. */
    private static final class Reader {
        final Scanner scanner = new Scanner();
        private final Tracer tracer = new Tracer();
        private final Formula formula = new Formula();
        private final long[] names = new long[MOST_WORDS];
        private final int[] open = new int[MOST_OPEN];
        private int openCount;
        private int toldLines;
        private int itemSort;
        private int itemValue;
        private Code code;

        boolean readAll(Code target, int length) {
            code = target;
            code.empty();
            toldLines = 0;
            scanner.begin(length);
            for (int lines = 0; lines <= MOST_BYTES && scanner.goesOn(); lines++) {
                if (scanner.isKey(KEY_WORD)) {
                    readWord();
                } else if (scanner.isKey(KEY_TAKES)) {
                    readTakes();
                } else if (scanner.isKey(KEY_FLIPS)) {
                    code.flips = readNumberLine(KEY_FLIPS, 100);
                } else if (scanner.isKey(KEY_DRAW)) {
                    code.draw = readNumberLine(KEY_DRAW, 999);
                } else {
                    scanner.refuse();
                }
                if (scanner.fault == 0) {
                    scanner.advance();
                }
            }
            return scanner.fault == 0;
        }

        private boolean isToldAgain(int key) {
            int bit = 1 << key - KEY_TAKES;
            boolean again = (toldLines & bit) != 0;
            toldLines |= bit;
            return again;
        }

        private void readTakes() {
            if (isToldAgain(KEY_TAKES)) {
                scanner.refuse();
                return;
            }
            scanner.advance();
            formula.begin(scanner);
            formula.readLevel(Formula.LEVEL_OR, 0);
            scanner.require(';');
            if (scanner.fault == 0) {
                code.units = formula.units;
                formula.fill(code.taken);
            }
        }

        private int readNumberLine(int key, int most) {
            if (isToldAgain(key)) {
                scanner.refuse();
                return 0;
            }
            scanner.advance();
            int number = scanner.value;
            requireNumber(0, most);
            if (scanner.fault == 0) {
                scanner.advance();
                scanner.require(';');
            }
            return number;
        }

        private void requireNumber(int least, int most) {
            if (scanner.sort != Scanner.NUMBER) {
                scanner.refuse();
            } else if (scanner.value < least || scanner.value > most) {
                scanner.fail(FAULT_NUMBER);
            }
        }

        private void readWord() {
            if (code.words >= MOST_WORDS) {
                scanner.refuse();
                return;
            }
            scanner.advance();
            readName();
            if (scanner.fault == 0) {
                scanner.advance();
                scanner.require('=');
            }
            readItems();
            if (scanner.fault == 0) {
                closeWord();
            }
        }

        private void readName() {
            if (scanner.sort != Scanner.NAME) {
                scanner.refuse();
            } else if (numberOf(scanner.name) != NONE) {
                scanner.fail(FAULT_TOLD);
            } else {
                names[code.words] = scanner.name;
            }
        }

        private void readItems() {
            openCount = 0;
            tracer.begin(code);
            for (int n = 0; n <= MOST_ITEMS_OF_A_WORD && scanner.fault == 0; n++) {
                scanner.advance();
                if (scanner.isSign(';')) {
                    return;
                }
                readItem();
                if (scanner.fault == 0 && itemSort == SORT_TIMES) {
                    scanner.advance();
                    requireNumber(1, 9);
                    itemValue = scanner.value;
                }
                if (scanner.fault == 0) {
                    addItem();
                }
            }
        }

        private void closeWord() {
            if (openCount > 0) {
                scanner.refuse();
                return;
            }
            if (!tracer.endsWell()) {
                scanner.fail(FAULT_DEPTH);
                return;
            }
            int word = code.words;
            code.needs[word] = tracer.needs;
            code.leaves[word] = tracer.needs + tracer.height;
            code.high[word] = tracer.high;
            code.most[word] = tracer.most;
            code.steps[word] = tracer.steps;
            code.words++;
            code.start[code.words] = code.items;
        }

        private int numberOf(long name) {
            for (int word = 0; word < code.words; word++) {
                if (names[word] == name) {
                    return word;
                }
            }
            return NONE;
        }

        private void readItem() {
            itemValue = scanner.value;
            if (code.items >= MOST_ITEMS || code.items - code.start[code.words] >= MOST_ITEMS_OF_A_WORD) {
                scanner.refuse();
            } else if (scanner.sort == Scanner.NUMBER) {
                itemSort = SORT_NUMBER;
            } else if (scanner.sort == Scanner.NAME) {
                readCall();
            } else if (scanner.sort == Scanner.KEY && scanner.value < THINGS) {
                itemSort = SORT_THING;
            } else if (scanner.isKey(KEY_IF) || scanner.isKey(KEY_TIMES)) {
                readOpening();
            } else {
                readClosing();
            }
        }

        private void readCall() {
            itemSort = SORT_CALL;
            itemValue = numberOf(scanner.name);
            if (itemValue == NONE) {
                scanner.fail(FAULT_UNKNOWN);
            }
        }

        private void readOpening() {
            if (openCount >= MOST_OPEN) {
                scanner.refuse();
                return;
            }
            open[openCount] = code.items;
            openCount++;
            itemSort = scanner.isKey(KEY_IF) ? SORT_IF : SORT_TIMES;
            itemValue = 0;
        }

        private void readClosing() {
            int opener = openCount > 0 ? open[openCount - 1] : NONE;
            int opened = opener == NONE ? NONE : code.sort[opener];
            itemValue = 0;
            if (scanner.isKey(KEY_ELSE) && opened == SORT_IF) {
                itemSort = SORT_ELSE;
                code.partner[opener] = code.items;
                open[openCount - 1] = code.items;
            } else if (scanner.isKey(KEY_THEN) && (opened == SORT_IF || opened == SORT_ELSE)) {
                itemSort = SORT_THEN;
                code.partner[opener] = code.items;
                openCount--;
            } else if (scanner.isKey(KEY_NEXT) && opened == SORT_TIMES) {
                itemSort = SORT_NEXT;
                code.partner[code.items] = opener;
                openCount--;
            } else {
                scanner.refuse();
            }
        }

        private void addItem() {
            int fault = tracer.pass(itemSort, itemValue);
            if (fault != 0) {
                scanner.fail(fault);
                return;
            }
            code.sort[code.items] = itemSort;
            code.value[code.items] = itemValue;
            code.behind[code.items] = tracer.height;
            code.items++;
        }
    }

    /** Tells HEIGHT, PUSHED and STEPS over a WORD, ITEM by ITEM; only WORDS that are whole are looked up in the CODE. */
    private static final class Tracer {
        private Code code;
        int height;
        private int pushed;
        int needs;
        int high;
        int most;
        int steps;
        private int depth;
        private final int[] entryHeight = new int[MOST_OPEN];
        private final int[] entryPushed = new int[MOST_OPEN];
        private final int[] wayHeight = new int[MOST_OPEN];
        private final int[] wayPushed = new int[MOST_OPEN];
        private final int[] waySteps = new int[MOST_OPEN];
        private final int[] outerSteps = new int[MOST_OPEN];

        void begin(Code newCode) {
            code = newCode;
            height = 0;
            pushed = 0;
            needs = 0;
            high = 0;
            most = 0;
            steps = 0;
            depth = 0;
        }

        boolean endsWell() {
            return depth == 0 && pushed == 0 && steps <= MOST_STEPS;
        }

        /** Answers the FAULT at this ITEM, 0 if there is none. */
        int pass(int sort, int value) {
            switch (sort) {
                case SORT_THING: return passThing(value);
                case SORT_NUMBER:
                    steps++;
                    return change(0, 1, 1);
                case SORT_CALL: return passCall(value);
                case SORT_IF:
                    int fault = change(1, 0, 0);
                    return fault != 0 ? fault : enter(0);
                case SORT_TIMES: return enter(value);
                case SORT_ELSE: return passElse();
                case SORT_THEN: return passThen();
                case SORT_NEXT: return passNext();
                default: return FAULT_PLACE;
            }
        }

        private int passThing(int thing) {
            if (thing < 0 || thing >= THINGS || thing == POP && pushed == 0) {
                return FAULT_DEPTH;
            }
            steps++;
            if (thing == PUSH) {
                pushed++;
                most = Math.max(most, pushed);
            } else if (thing == POP) {
                pushed--;
            }
            int fault = change(OFF[thing], ON[thing], ON[thing] - OFF[thing]);
            return pushed > MOST_PUSHED ? FAULT_DEPTH : fault;
        }

        private int passCall(int word) {
            if (!code.hasWord(word)) {
                return FAULT_UNKNOWN;
            }
            steps += 1 + code.steps[word];
            return change(code.needs[word], code.leaves[word], code.high[word]);
        }

        private int change(int off, int on, int reach) {
            needs = off - height > needs ? off - height : needs;
            high = height + reach > high ? height + reach : high;
            height += on - off;
            return needs > MOST_NEEDS || high > MOST_HIGH ? FAULT_DEPTH : 0;
        }

        /** The other way of an if without else is one that does nothing; of a times, how often stands in its place. */
        private int enter(int other) {
            if (depth >= MOST_OPEN) {
                return FAULT_PLACE;
            }
            entryHeight[depth] = height;
            entryPushed[depth] = pushed;
            wayHeight[depth] = height;
            wayPushed[depth] = pushed;
            waySteps[depth] = other;
            outerSteps[depth] = steps + 1;
            steps = 0;
            depth++;
            return 0;
        }

        private int passElse() {
            if (depth == 0) {
                return FAULT_PLACE;
            }
            int at = depth - 1;
            wayHeight[at] = height;
            wayPushed[at] = pushed;
            waySteps[at] = steps;
            height = entryHeight[at];
            pushed = entryPushed[at];
            steps = 0;
            return 0;
        }

        private int passThen() {
            if (depth == 0) {
                return FAULT_PLACE;
            }
            depth--;
            steps = outerSteps[depth] + Math.max(steps, waySteps[depth]);
            return height == wayHeight[depth] && pushed == wayPushed[depth] ? 0 : FAULT_JOIN;
        }

        private int passNext() {
            if (depth == 0) {
                return FAULT_PLACE;
            }
            depth--;
            steps = outerSteps[depth] + waySteps[depth] * steps;
            return height == entryHeight[depth] && pushed == entryPushed[depth] ? 0 : FAULT_JOIN;
        }
    }

    /** Both stacks, what is INLINED and the SEED: all that an ACT can change. */
    private static final class State {
        /** Each of six WORDS within one another may have six put by, besides those put by by hand. */
        private static final int MOST_PUT = MOST_PUSHED * (MOST_WORDS + 1);

        private final int[] cells = new int[MOST_CELLS];
        int count;
        private final int[] puts = new int[MOST_PUT];
        int putCount;
        int inlined;
        int seed;

        void begin(int newSeed) {
            dropAll();
            inlined = 0;
            seed = newSeed;
        }

        void beginWith(int a, int b, int c) {
            dropAll();
            add(a);
            add(b);
            add(c);
        }

        void dropAll() {
            count = 0;
            putCount = 0;
        }

        void copyFrom(State other) {
            System.arraycopy(other.cells, 0, cells, 0, other.count);
            System.arraycopy(other.puts, 0, puts, 0, other.putCount);
            count = other.count;
            putCount = other.putCount;
            inlined = other.inlined;
            seed = other.seed;
        }

        boolean hasSameCells(State other) {
            if (count != other.count) {
                return false;
            }
            for (int i = 0; i < count; i++) {
                if (cells[i] != other.cells[i]) {
                    return false;
                }
            }
            return true;
        }

        int cellAt(int i) {
            return i >= 0 && i < count ? cells[count - 1 - i] : 0;
        }

        int putAt(int i) {
            return i >= 0 && i < putCount ? puts[putCount - 1 - i] : 0;
        }

        void add(int n) {
            if (count < MOST_CELLS) {
                cells[count] = n;
                count++;
            }
        }

        int takeTop() {
            if (count == 0) {
                return 0;
            }
            count--;
            return cells[count];
        }

        boolean canByHand(int thing) {
            if (thing == PUSH && putCount >= MOST_PUSHED || thing == POP && putCount == 0) {
                return false;
            }
            return count >= OFF[thing] && count - OFF[thing] + ON[thing] <= MOST_CELLS;
        }

        void perform(int thing) {
            if (thing < 0 || thing >= THINGS || count < OFF[thing] || count - OFF[thing] + ON[thing] > MOST_CELLS) {
                return;
            }
            int a = count >= 3 ? cells[count - 3] : 0;
            int b = count >= 2 ? cells[count - 2] : 0;
            int c = count >= 1 ? cells[count - 1] : 0;
            int base = count - OFF[thing];
            count = base + ON[thing];
            if (thing < SHUFFLES) {
                for (int i = 0; i < ON[thing]; i++) {
                    int from = SHUFFLED[thing * 3 + i];
                    cells[base + i] = from == 0 ? c : from == 1 ? b : a;
                }
                return;
            }
            switch (thing) {
                case PUSH:
                    if (putCount < MOST_PUT) {
                        puts[putCount] = c;
                        putCount++;
                    }
                    break;
                case POP:
                    cells[base] = putCount > 0 ? puts[putCount - 1] : 0;
                    putCount = putCount > 0 ? putCount - 1 : 0;
                    break;
                case ADD: cells[base] = b + c; break;
                case SUB: cells[base] = b - c; break;
                case MUL: cells[base] = b * c; break;
                case NEG: cells[base] = -c; break;
                case LESS: cells[base] = b < c ? 1 : 0; break;
                case SAME: cells[base] = b == c ? 1 : 0; break;
                default: break;
            }
        }

        int turnBit(int flips) {
            seed = (seed * 137 + 71) % 1000;
            if (seed % 100 >= flips || count == 0) {
                return NONE;
            }
            int bit = seed / 100;
            cells[count - 1] ^= 1 << bit;
            return bit;
        }
    }

    /** The states behind each ACT that is kept, in a ring, so that the oldest goes without the others being moved. */
    private static final class Timeline {
        private final State[] ring = new State[MOST_ACTS + 1];
        private int oldest;
        int done;
        int known;

        Timeline() {
            for (int i = 0; i <= MOST_ACTS; i++) {
                ring[i] = new State();
            }
        }

        State state() {
            return ring[(oldest + done) % (MOST_ACTS + 1)];
        }

        State begin() {
            State before = state();
            if (done == MOST_ACTS) {
                oldest = (oldest + 1) % (MOST_ACTS + 1);
            } else {
                done++;
            }
            known = done;
            state().copyFrom(before);
            return state();
        }

        boolean stepBack() {
            if (done == 0) {
                return false;
            }
            done--;
            return true;
        }

        boolean stepOn() {
            if (done == known) {
                return false;
            }
            done++;
            return true;
        }

        /** No ACTS are kept; what the state is then is for who calls to tell. */
        State restart() {
            done = 0;
            known = 0;
            return state();
        }
    }

    /** Does WORDS on a state; that there is room for all they lay is looked at by who calls. */
    private static final class Runner {
        /** Far above the ITEMS that 2,000 STEPS can go over. */
        private static final int MOST_GONE_OVER = 1000000;

        private Code code;
        private State state;
        private int budget;
        /** A WORD never stands open twice at once, so one counter for each times is enough. */
        private final int[] roundsLeft = new int[MOST_ITEMS];
        private final State one = new State();
        private final State two = new State();

        void doWord(Code newCode, State newState, int word) {
            doItems(newCode, newState, newCode.start[word], newCode.start[word + 1]);
        }

        void doItems(Code newCode, State newState, int from, int upTo) {
            code = newCode;
            state = newState;
            budget = MOST_GONE_OVER;
            goOver(from, upTo, 0);
        }

        private void goOver(int from, int upTo, int depth) {
            int at = from;
            while (at >= 0 && at < upTo && budget > 0) {
                budget--;
                at = doItem(at, depth);
            }
        }

        /** Answers which ITEM follows. */
        private int doItem(int at, int depth) {
            int value = code.value[at];
            switch (code.sort[at]) {
                case SORT_THING:
                    state.perform(value);
                    return at + 1;
                case SORT_NUMBER:
                    state.add(value);
                    return at + 1;
                case SORT_CALL:
                    if (depth < MOST_WORDS && code.hasWord(value)) {
                        goOver(code.start[value], code.start[value + 1], depth + 1);
                    }
                    return at + 1;
                case SORT_IF:
                    return state.takeTop() != 0 ? at + 1 : code.partner[at] + 1;
                case SORT_ELSE:
                    return code.partner[at] + 1;
                case SORT_TIMES:
                    roundsLeft[at] = value;
                    return at + 1;
                case SORT_NEXT:
                    int begin = code.partner[at];
                    roundsLeft[begin]--;
                    return roundsLeft[begin] > 0 ? begin + 1 : at + 1;
                default:
                    return at + 1;
            }
        }

        /** The first cells for which two WORDS come to others, NONE if there are none. */
        int firstDifference(Code both, int word, int other) {
            int needs = both.needs[word];
            if (needs > TRIED_CELLS || needs != both.needs[other] || both.leaves[word] != both.leaves[other]) {
                return NOT_COMPARABLE;
            }
            int tries = 1 << 2 * needs;
            for (int go = 0; go < tries; go++) {
                int digits = layDigits(one, go, needs);
                layDigits(two, go, needs);
                doWord(both, one, word);
                doWord(both, two, other);
                if (!one.hasSameCells(two)) {
                    return digits;
                }
            }
            return NONE;
        }

        private static int layDigits(State on, int go, int needs) {
            int digits = 0;
            on.dropAll();
            for (int i = needs - 1; i >= 0; i--) {
                int cell = go >> 2 * i & 3;
                on.add(cell);
                digits = digits * 10 + cell;
            }
            return digits;
        }
    }

    /** TIME and ROOM; a WORD calls those told ahead of it alone, so those are worked out first and no way goes back. */
    private static final class Costs {
        private final int[] price = new int[KINDS];
        private final int[] ofWord = new int[MOST_WORDS];
        /** At 0 there is what is within no if or times. */
        private final int[] outer = new int[MOST_OPEN + 1];
        private final int[] way = new int[MOST_OPEN + 1];

        void priceByForm(Code code, int form) {
            System.arraycopy(code.taken, form * KINDS, price, 0, KINDS);
        }

        void priceAlike(int n) {
            Arrays.fill(price, n);
        }

        int timeOf(Code code, int inlined, int word) {
            for (int w = 0; w <= word; w++) {
                ofWord[w] = timeAlone(code, inlined, w);
            }
            return ofWord[word];
        }

        private int timeAlone(Code code, int inlined, int word) {
            int sum = 0;
            int depth = 0;
            for (int i = code.start[word]; i < code.start[word + 1]; i++) {
                int value = code.value[i];
                switch (code.sort[i]) {
                    case SORT_THING:
                        sum += price[value];
                        break;
                    case SORT_NUMBER:
                        sum += price[KIND_NUMBER];
                        break;
                    case SORT_CALL:
                        sum += ofWord[value] + ((inlined >> value & 1) == 0 ? price[KIND_CALL] : 0);
                        break;
                    case SORT_ELSE:
                        way[depth] = sum;
                        sum = 0;
                        break;
                    case SORT_THEN:
                        sum = outer[depth] + price[KIND_IF] + Math.max(sum, way[depth]);
                        depth = Math.max(0, depth - 1);
                        break;
                    case SORT_NEXT:
                        sum = outer[depth] + way[depth] * (price[KIND_TIMES] + sum);
                        depth = Math.max(0, depth - 1);
                        break;
                    default:
                        // An if without else has nothing as its other way, a times how often it is done: both are its value.
                        depth = Math.min(MOST_OPEN, depth + 1);
                        outer[depth] = sum;
                        way[depth] = value;
                        sum = 0;
                        break;
                }
            }
            return sum;
        }

        int roomOf(Code code, int inlined, int word, int form) {
            for (int w = 0; w <= word; w++) {
                int sum = 0;
                for (int i = code.start[w]; i < code.start[w + 1]; i++) {
                    sum += roomOfItem(code.sort[i], code.value[i], inlined, form);
                }
                ofWord[w] = sum;
            }
            return 1 + form + ofWord[word];
        }

        private int roomOfItem(int sort, int value, int inlined, int form) {
            switch (sort) {
                case SORT_THING: return 1;
                case SORT_NUMBER: return form == TOKEN_FORM ? 3 : 2;
                case SORT_CALL: return (inlined >> value & 1) == 0 ? 1 : ofWord[value];
                case SORT_THEN: return 0;
                default: return 2;
            }
        }

        int bestForm(Code code, int inlined, int word) {
            int found = 0;
            int leastTime = GREATEST;
            int leastRoom = GREATEST;
            for (int form = 0; form < FORMS; form++) {
                priceByForm(code, form);
                int itsTime = timeOf(code, inlined, word);
                int itsRoom = roomOf(code, inlined, word, form);
                if (itsTime < leastTime || itsTime == leastTime && itsRoom < leastRoom) {
                    found = form;
                    leastTime = itsTime;
                    leastRoom = itsRoom;
                }
            }
            return found;
        }

        int bestToInline(Code code, int inlined) {
            int last = code.words - 1;
            int least = timeOf(code, inlined, last);
            int found = NONE;
            for (int word = 0; word <= last; word++) {
                if ((inlined >> word & 1) == 0) {
                    int itsTime = timeOf(code, inlined | 1 << word, last);
                    if (itsTime < least) {
                        least = itsTime;
                        found = word;
                    }
                }
            }
            return found;
        }

        int openCalls(Code code, int word) {
            for (int w = 0; w <= word; w++) {
                ofWord[w] = 1;
                for (int i = code.start[w]; i < code.start[w + 1]; i++) {
                    if (code.sort[i] == SORT_CALL) {
                        ofWord[w] = Math.max(ofWord[w], 1 + ofWord[code.value[i]]);
                    }
                }
            }
            return ofWord[word];
        }
    }

    /**
     * SHUFFLE TASKS. A row of cells is held as digits to the base 4, the top one last: as no cell is 0,
     * how great the number is tells how many cells there are.
     */
    private static final class Shuffler {
        private static final int ROWS = 1024;
        private static final int FOUR_CELLS = 255;
        private static final int TWO_CELLS_AT_LEAST = 4;
        private static final int THREE_CELLS_AT_LEAST = 16;
        private static final int REAL_ROWS = 364;
        private static final int LONGEST_RUN = 6;
        private static final int MOST_TOLD = 9999999;
        private static final int UNSEEN = -1;
        private static final int FAR = 1000000000;
        /** More than any way is long, so that what a way takes counts first and how long it is after that. */
        private static final int PRICE_UNIT = 1000;

        private final int[] queue = new int[REAL_ROWS];
        private int queued;
        private final int[] via = new int[ROWS];
        private final int[] before = new int[ROWS];
        private final int[] cost = new int[ROWS];
        private final int[] price = new int[SHUFFLES];
        final int[] lying = new int[REAL_ROWS];
        int found;
        private int neededByRun;

        /** NONE if there can be no such row of cells 1 .. n. */
        int rowOf(int n, int digits) {
            if (n < 0 || n > TRIED_CELLS || digits < 0 || digits > 9999) {
                return NONE;
            }
            int row = 0;
            boolean begun = false;
            for (int ten = 1000; ten >= 1; ten /= 10) {
                int digit = digits / ten % 10;
                begun = begun || digit != 0;
                if (begun && (digit < 1 || digit > n)) {
                    return NONE;
                }
                row = row * 4 + digit;
            }
            return row;
        }

        private static int digitsOf(int row) {
            int digits = 0;
            for (int shift = 8; shift >= 0; shift -= 2) {
                digits = digits * 10 + (row >> shift & 3);
            }
            return digits;
        }

        private static int firstRow(int n) {
            int row = 0;
            for (int cell = 1; cell <= n; cell++) {
                row = row * 4 + cell;
            }
            return row;
        }

        /** NONE if the cells are not there, or there would be more than five. */
        private static int shuffle(int row, int thing) {
            if (row < least(thing) || ON[thing] > OFF[thing] && row > FOUR_CELLS) {
                return NONE;
            }
            int c = row & 3;
            int b = row >> 2 & 3;
            int a = row >> 4 & 3;
            switch (thing) {
                case DUP: return row << 2 | c;
                case DROP: return row >> 2;
                case SWAP: return row >> 4 << 4 | c << 2 | b;
                case OVER: return row << 2 | b;
                case ROT: return row >> 6 << 6 | b << 4 | c << 2 | a;
                case NIP: return row >> 4 << 2 | c;
                case TUCK: return row >> 4 << 6 | c << 4 | b << 2 | c;
                default: return NONE;
            }
        }

        private static int least(int thing) {
            return OFF[thing] == 1 ? 1 : OFF[thing] == 2 ? TWO_CELLS_AT_LEAST : THREE_CELLS_AT_LEAST;
        }

        int findShortest(int n, int target) {
            found = 0;
            if (target == NONE || !explore(n, target)) {
                return NONE;
            }
            found = distance(n, target);
            int row = target;
            for (int i = found - 1; i >= 0; i--) {
                lying[i] = via[row];
                row = before[row];
            }
            return found;
        }

        private int distance(int n, int target) {
            int first = firstRow(n);
            int row = target;
            int length = 0;
            while (row != first && length < REAL_ROWS) {
                row = before[row];
                length++;
            }
            return length;
        }

        /**
         * Rows are met in the order of their shortest ways, of like ones of the first, as each goes on by
         * SHUFFLES in their order: so the way by which a row is met first is its SHORTEST.
         */
        private boolean explore(int n, int target) {
            Arrays.fill(via, UNSEEN);
            queued = 0;
            meet(firstRow(n), 0, 0);
            for (int head = 0; head < queued; head++) {
                int row = queue[head];
                if (row == target) {
                    return true;
                }
                for (int thing = 0; thing < SHUFFLES; thing++) {
                    int to = shuffle(row, thing);
                    if (to != NONE && via[to] == UNSEEN) {
                        meet(to, thing, row);
                    }
                }
            }
            return false;
        }

        private void meet(int row, int thing, int from) {
            if (queued < REAL_ROWS) {
                via[row] = thing;
                before[row] = from;
                queue[queued] = row;
                queued++;
            }
        }

        int findCheapest(int n, int target, int[] taken) {
            found = 0;
            if (target == NONE) {
                return NONE;
            }
            explore(n, NONE);
            if (via[target] == UNSEEN) {
                return NONE;
            }
            for (int thing = 0; thing < SHUFFLES; thing++) {
                price[thing] = taken[thing] * PRICE_UNIT + 1;
            }
            reckonCosts(target);
            walkCheaply(firstRow(n), target);
            return cost[firstRow(n)] / PRICE_UNIT;
        }

        /** What it takes from each row to the target: so the first SHUFFLE on a cheapest way can be told at each row. */
        private void reckonCosts(int target) {
            Arrays.fill(cost, FAR);
            cost[target] = 0;
            boolean changed = true;
            for (int pass = 0; pass < REAL_ROWS && changed; pass++) {
                changed = false;
                for (int i = queued - 1; i >= 0; i--) {
                    int row = queue[i];
                    for (int thing = 0; thing < SHUFFLES; thing++) {
                        int to = shuffle(row, thing);
                        if (to != NONE && cost[to] + price[thing] < cost[row]) {
                            cost[row] = cost[to] + price[thing];
                            changed = true;
                        }
                    }
                }
            }
        }

        private void walkCheaply(int first, int target) {
            int row = first;
            while (row != target && found < REAL_ROWS) {
                int to = NONE;
                int thing = 0;
                while (thing < SHUFFLES && to == NONE) {
                    int next = shuffle(row, thing);
                    if (next != NONE && cost[next] + price[thing] == cost[row]) {
                        to = next;
                    } else {
                        thing++;
                    }
                }
                if (to == NONE) {
                    return;
                }
                lying[found] = thing;
                found++;
                row = to;
            }
        }

        int follow(int n, int shuffles) {
            if (n < 0 || n > TRIED_CELLS || shuffles < 0 || shuffles > MOST_TOLD) {
                return NONE;
            }
            int row = firstRow(n);
            boolean begun = false;
            for (int ten = 1000000; ten >= 1; ten /= 10) {
                int digit = shuffles / ten % 10;
                begun = begun || digit != 0;
                if (begun) {
                    row = digit < 1 || digit > SHUFFLES ? NONE : shuffle(row, digit - 1);
                }
                if (row == NONE) {
                    return NONE;
                }
            }
            return row > FOUR_CELLS ? NONE : digitsOf(row);
        }

        int saved(Code code, int word) {
            int less = 0;
            int at = code.start[word];
            while (at < code.start[word + 1]) {
                int length = longestRun(code, at, code.start[word + 1]);
                if (length > 0) {
                    int row = rowOfRun(code, at, length);
                    less += explore(neededByRun, row) ? length - distance(neededByRun, row) : 0;
                }
                at += Math.max(1, length);
            }
            return less;
        }

        private int longestRun(Code code, int from, int upTo) {
            int most = 0;
            while (most < LONGEST_RUN && from + most < upTo && code.isShuffle(from + most)) {
                most++;
            }
            for (int length = most; length > 1; length--) {
                int row = rowOfRun(code, from, length);
                if (row != NONE && row <= FOUR_CELLS) {
                    return length;
                }
            }
            return Math.min(most, 1);
        }

        /** To what a run comes of as many cells as it NEEDS (kept, too); NONE if it can't be told as a TASK. */
        private int rowOfRun(Code code, int from, int length) {
            int height = 0;
            int needs = 0;
            for (int i = from; i < from + length; i++) {
                int thing = code.value[i];
                needs = Math.max(needs, OFF[thing] - height);
                height += ON[thing] - OFF[thing];
            }
            neededByRun = needs;
            int row = needs > TRIED_CELLS ? NONE : firstRow(needs);
            for (int i = from; i < from + length && row != NONE; i++) {
                row = shuffle(row, code.value[i]);
            }
            return row;
        }
    }

    /** What was SEEN of the last WORD, and which THINGS may have stood first in it. */
    private static final class Sightings {
        private static final int NEVER = -1;

        private final Tracer tracer = new Tracer();
        private final Runner runner = new Runner();
        private final State tried = new State();
        /** The three cells as digits, the top one last. */
        private final int[] cells = new int[MOST_SEEN];
        private final int[] tops = new int[MOST_SEEN];
        private final boolean[] was = new boolean[MOST_SEEN];
        private final int[] toldAt = new int[MOST_SEEN];
        private final int[] untoldAt = new int[MOST_SEEN];
        int many;
        final int[] fitting = new int[THINGS];
        private int fittingCount;
        private final int[] outcomes = new int[THINGS];

        void forget() {
            many = 0;
        }

        int tell(int digits, int top, boolean is, int time) {
            if (many >= MOST_SEEN) {
                return NONE;
            }
            cells[many] = digits;
            tops[many] = top;
            was[many] = is;
            toldAt[many] = time;
            untoldAt[many] = NEVER;
            many++;
            return many - 1;
        }

        boolean takeBack(int which, int time) {
            if (which < 0 || which >= many || untoldAt[which] != NEVER) {
                return false;
            }
            untoldAt[which] = time;
            return true;
        }

        private boolean isKnown(int which, int k) {
            boolean untold = untoldAt[which] != NEVER && untoldAt[which] <= k;
            return toldAt[which] <= k && !untold;
        }

        int collect(Code code, int k) {
            fittingCount = 0;
            int last = code.words - 1;
            if (last < 0 || !code.hasItem(last, 0) || code.sort[code.start[last]] > SORT_CALL) {
                return 0;
            }
            for (int thing = 0; thing < THINGS; thing++) {
                if (canStandFirst(code, thing) && agreesWithAll(code, thing, k)) {
                    fitting[fittingCount] = thing;
                    fittingCount++;
                }
            }
            return fittingCount;
        }

        private boolean canStandFirst(Code code, int thing) {
            int last = code.words - 1;
            tracer.begin(code);
            int fault = tracer.pass(SORT_THING, thing);
            for (int i = code.start[last] + 1; i < code.start[last + 1] && fault == 0; i++) {
                fault = tracer.pass(code.sort[i], code.value[i]);
            }
            return fault == 0 && tracer.endsWell() && tracer.needs <= TRIED_CELLS && TRIED_CELLS + tracer.height >= 1;
        }

        private boolean agreesWithAll(Code code, int thing, int k) {
            for (int i = 0; i < many; i++) {
                if (isKnown(i, k) && (topFor(code, thing, cells[i]) == tops[i]) != was[i]) {
                    return false;
                }
            }
            return true;
        }

        private int topFor(Code code, int thing, int digits) {
            int last = code.words - 1;
            tried.beginWith(digits / 100, digits / 10 % 10, digits % 10);
            tried.perform(thing);
            runner.doItems(code, tried, code.start[last] + 1, code.start[last + 1]);
            return tried.cellAt(0);
        }

        /** Of those which were collected last. */
        int nextToTry(Code code, int digits) {
            int found = 0;
            int fewest = GREATEST;
            for (int c = 0; c <= 9; c++) {
                int left = leftAtMost(code, digits * 10 + c);
                if (left < fewest) {
                    fewest = left;
                    found = c;
                }
            }
            return found;
        }

        int leftAtMost(Code code, int digits) {
            int most = 0;
            for (int i = 0; i < fittingCount; i++) {
                outcomes[i] = topFor(code, fitting[i], digits);
                int like = 0;
                for (int j = 0; j <= i; j++) {
                    like += outcomes[j] == outcomes[i] ? 1 : 0;
                }
                most = Math.max(most, like);
            }
            return most;
        }
    }
}
