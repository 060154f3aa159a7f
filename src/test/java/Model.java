import java.util.ArrayList;
import java.util.Arrays;
import java.util.HashMap;
import java.util.HashSet;
import java.util.List;
import java.util.Map;
import java.util.PriorityQueue;
import java.util.Set;
import java.util.function.IntBinaryOperator;

/** The document told once more, as plainly as can be and by other means than the program's, to be compared with it. */
final class Model {
    static final List<String> THINGS = List.of("dup", "drop", "swap", "over", "rot", "nip", "tuck", "push", "pop",
        "add", "sub", "mul", "neg", "less", "same");
    static final Set<String> OWN = new HashSet<>(THINGS);
    static {
        OWN.addAll(List.of("if", "else", "then", "times", "next", "word", "takes", "flips", "draw", "or", "and", "not", "form", "kind"));
    }

    static final class Fault extends RuntimeException {
        private static final long serialVersionUID = 1;
        final int what;
        final int place;

        Fault(int what, int place) {
            this.what = what;
            this.place = place;
        }
    }

    record Token(String text, int place) { }

    static final class Item {
        int sort;
        int value;
        int place;
        int height;
    }

    static final class Word {
        String name;
        int place;
        List<Item> items = new ArrayList<>();
        int needs;
        int last;
        int high;
        int most;
        int steps;
    }

    static final class Machine {
        List<Integer> stack = new ArrayList<>();
        List<Integer> second = new ArrayList<>();
        Set<Integer> inlined = new HashSet<>();
        int seed;

        Machine copy() {
            Machine m = new Machine();
            m.stack.addAll(stack);
            m.second.addAll(second);
            m.inlined.addAll(inlined);
            m.seed = seed;
            return m;
        }
    }

    record Seen(int a, int b, int c, int top, boolean is, int told, int[] untold) { }

    StringBuilder tape = new StringBuilder();
    List<Word> words = new ArrayList<>();
    IntBinaryOperator formula = (form, kind) -> 1 + form;
    int units;
    int flips;
    int draw;
    int fault;
    int place = -1;
    Machine machine = new Machine();
    List<Machine> past = new ArrayList<>();
    List<Machine> future = new ArrayList<>();
    Map<Integer, Machine> boxes = new HashMap<>();
    List<Integer> lying = new ArrayList<>();
    List<Seen> seen = new ArrayList<>();
    int time;

    // ---- text

    int feed(int... numbers) {
        if (tape.length() + 20 > 1600) {
            return -1;
        }
        for (int n : numbers) {
            for (int b = 3; b >= 0; b--) {
                tape.append((char) (n >>> 8 * b & 255));
            }
        }
        return tape.length();
    }

    int end(int n) {
        if (n < 0 || n > tape.length()) {
            return -1;
        }
        tape.setLength(n);
        return n;
    }

    int code() {
        Reading r = new Reading(tape.toString());
        try {
            r.all();
        } catch (Fault f) {
            fault = f.what;
            place = f.place;
            return -1;
        }
        fault = 0;
        place = -1;
        words = r.words;
        formula = r.formula;
        units = r.units;
        flips = r.flips;
        draw = r.draw;
        machine = new Machine();
        machine.seed = draw;
        past.clear();
        future.clear();
        boxes.clear();
        lying.clear();
        seen.clear();
        tape.setLength(0);
        return words.size();
    }

    static final class Reading {
        final String text;
        final List<Token> tokens = new ArrayList<>();
        int at = 0;
        List<Word> words = new ArrayList<>();
        IntBinaryOperator formula = (form, kind) -> 1 + form;
        Set<String> told = new HashSet<>();
        int units;
        int flips;
        int draw;

        Reading(String text) {
            this.text = text;
            int i = 0;
            while (i < text.length()) {
                char c = text.charAt(i);
                if (c == ' ' || c == '\n') {
                    i++;
                    continue;
                }
                int j = i + 1;
                String token = null;
                if (c >= 'a' && c <= 'z') {
                    while (j < text.length() && Character.isLowerCase(text.charAt(j)) && text.charAt(j) < 128) {
                        j++;
                    }
                    token = j - i > 8 ? null : text.substring(i, j);
                } else if (c >= '0' && c <= '9') {
                    while (j < text.length() && text.charAt(j) >= '0' && text.charAt(j) <= '9') {
                        j++;
                    }
                    boolean letter = j < text.length() && text.charAt(j) >= 'a' && text.charAt(j) <= 'z';
                    token = j - i > 4 || letter ? null : text.substring(i, j);
                } else if (";()<>=+-*/%".indexOf(c) >= 0) {
                    token = text.substring(i, j);
                }
                tokens.add(new Token(token, i));
                if (token == null) {
                    return;
                }
                i = j;
            }
            tokens.add(new Token("", text.length()));
        }

        Token now() {
            return tokens.get(at);
        }

        String see() {
            return now().text == null ? "?" : now().text;
        }

        Fault wrong() {
            return new Fault(now().text == null ? 1 : 2, now().place);
        }

        void must(String sign) {
            if (!see().equals(sign)) {
                throw wrong();
            }
            at++;
        }

        boolean isNumber() {
            return see().matches("[0-9]+");
        }

        boolean isName() {
            return see().matches("[a-z]+") && !OWN.contains(see());
        }

        void all() {
            while (!see().isEmpty()) {
                String line = see();
                switch (line) {
                    case "word":
                        word();
                        break;
                    case "takes":
                    case "flips":
                    case "draw":
                        if (!told.add(line)) {
                            throw wrong();
                        }
                        at++;
                        if (line.equals("takes")) {
                            formula = or(0);
                        } else {
                            int n = number(0, line.equals("flips") ? 100 : 999);
                            flips = line.equals("flips") ? n : flips;
                            draw = line.equals("draw") ? n : draw;
                        }
                        must(";");
                        break;
                    default:
                        throw wrong();
                }
            }
        }

        int number(int least, int most) {
            if (!isNumber()) {
                throw wrong();
            }
            int n = Integer.parseInt(see());
            if (n < least || n > most) {
                throw new Fault(4, now().place);
            }
            at++;
            return n;
        }

        /** Faults of the form first, with all ITEMS till there; then those of what is ahead of that place. */
        void word() {
            Word w = new Word();
            Fault form = null;
            try {
                formOf(w);
            } catch (Fault f) {
                form = f;
            }
            try {
                trace(w, words);
                if (form == null && (w.steps > 2000 || pushedAtEnd(w) != 0)) {
                    throw new Fault(7, tokens.get(at - 1).place);
                }
            } catch (Fault f) {
                if (form == null || f.place < form.place) {
                    throw f;
                }
            }
            if (form != null) {
                throw form;
            }
            words.add(w);
        }

        void formOf(Word w) {
            if (words.size() == 6) {
                throw wrong();
            }
            at++;
            if (!isName()) {
                throw wrong();
            }
            for (Word other : words) {
                if (other.name.equals(see())) {
                    throw new Fault(3, now().place);
                }
            }
            w.name = see();
            at++;
            must("=");
            items(w, 0);
            must(";");
        }

        void items(Word w, int within) {
            while (true) {
                int before = w.items.size();
                if (List.of(";", "else", "then", "next").contains(see())) {
                    return;
                }
                int all = before;
                for (Word other : words) {
                    all += other.items.size();
                }
                if (before >= 20 || all >= 60) {
                    throw wrong();
                }
                Item item = new Item();
                item.place = now().place;
                if (isNumber()) {
                    item.sort = 1;
                    item.value = Integer.parseInt(see());
                    w.items.add(item);
                    at++;
                } else if (THINGS.contains(see())) {
                    item.value = THINGS.indexOf(see());
                    w.items.add(item);
                    at++;
                } else if (isName()) {
                    item.sort = 2;
                    item.value = -1;
                    for (int i = 0; i < words.size(); i++) {
                        if (words.get(i).name.equals(see())) {
                            item.value = i;
                        }
                    }
                    if (item.value < 0) {
                        throw new Fault(5, now().place);
                    }
                    w.items.add(item);
                    at++;
                } else if (see().equals("if") && within <= 3) {
                    item.sort = 3;
                    w.items.add(item);
                    at++;
                    items(w, within + 1);
                    if (see().equals("else")) {
                        closing(w, 4);
                        items(w, within + 1);
                    }
                    if (!see().equals("then")) {
                        throw wrong();
                    }
                    closing(w, 5);
                } else if (see().equals("times") && within <= 3) {
                    item.sort = 6;
                    at++;
                    item.value = number(1, 9);
                    w.items.add(item);
                    items(w, within + 1);
                    if (!see().equals("next")) {
                        throw wrong();
                    }
                    closing(w, 7);
                } else {
                    throw wrong();
                }
            }
        }

        void closing(Word w, int sort) {
            int all = w.items.size();
            for (Word other : words) {
                all += other.items.size();
            }
            if (w.items.size() >= 20 || all >= 60) {
                throw wrong();
            }
            Item item = new Item();
            item.sort = sort;
            item.place = now().place;
            w.items.add(item);
            at++;
        }

        static int truth(boolean b) {
            return b ? 1 : 0;
        }

        IntBinaryOperator or(int depth) {
            IntBinaryOperator left = and(depth);
            while (see().equals("or")) {
                at++;
                IntBinaryOperator a = left;
                IntBinaryOperator b = and(depth);
                left = (f, k) -> truth(a.applyAsInt(f, k) != 0 | b.applyAsInt(f, k) != 0);
            }
            return left;
        }

        IntBinaryOperator and(int depth) {
            IntBinaryOperator left = one(depth);
            while (see().equals("and")) {
                at++;
                IntBinaryOperator a = left;
                IntBinaryOperator b = one(depth);
                left = (f, k) -> truth(a.applyAsInt(f, k) != 0 & b.applyAsInt(f, k) != 0);
            }
            return left;
        }

        IntBinaryOperator one(int depth) {
            if (see().equals("not")) {
                if (depth >= 7) {
                    throw wrong();
                }
                at++;
                IntBinaryOperator a = one(depth + 1);
                return (f, k) -> truth(a.applyAsInt(f, k) == 0);
            }
            IntBinaryOperator a = sum(depth);
            String sign = see();
            if (sign.equals("<") || sign.equals(">") || sign.equals("=")) {
                at++;
                IntBinaryOperator b = sum(depth);
                return (f, k) -> {
                    int order = Integer.compare(a.applyAsInt(f, k), b.applyAsInt(f, k));
                    return truth(sign.equals("<") ? order < 0 : sign.equals(">") ? order > 0 : order == 0);
                };
            }
            return a;
        }

        IntBinaryOperator sum(int depth) {
            IntBinaryOperator left = term(depth);
            while (see().equals("+") || see().equals("-")) {
                int factor = see().equals("+") ? 1 : -1;
                at++;
                IntBinaryOperator a = left;
                IntBinaryOperator b = term(depth);
                left = (f, k) -> a.applyAsInt(f, k) + factor * b.applyAsInt(f, k);
            }
            return left;
        }

        IntBinaryOperator term(int depth) {
            IntBinaryOperator left = unit(depth);
            while (see().equals("*") || see().equals("/") || see().equals("%")) {
                String sign = see();
                at++;
                IntBinaryOperator a = left;
                IntBinaryOperator b = unit(depth);
                left = (f, k) -> {
                    int x = a.applyAsInt(f, k);
                    int y = b.applyAsInt(f, k);
                    if (sign.equals("*")) {
                        return x * y;
                    }
                    return y == 0 ? 0 : sign.equals("/") ? x / y : x % y;
                };
            }
            return left;
        }

        IntBinaryOperator unit(int depth) {
            if (units >= 30) {
                throw wrong();
            }
            if (isNumber()) {
                int n = Integer.parseInt(see());
                at++;
                units++;
                return (f, k) -> n;
            }
            if (see().equals("form") || see().equals("kind")) {
                boolean form = see().equals("form");
                at++;
                units++;
                return (f, k) -> form ? f : k;
            }
            if (see().equals("(") && depth < 7) {
                at++;
                units++;
                IntBinaryOperator inner = or(depth + 1);
                must(")");
                return inner;
            }
            throw wrong();
        }
    }

    static final int[][] CHANGE = {{1, 2}, {1, 0}, {2, 2}, {2, 3}, {3, 3}, {2, 1}, {2, 3}, {1, 0}, {0, 1},
        {2, 1}, {2, 1}, {2, 1}, {1, 1}, {2, 1}, {2, 1}};

    /** Where one is: HEIGHT, PUSHED. */
    record Spot(int height, int pushed) { }

    static int pushedAtEnd(Word w) {
        int n = 0;
        int[] open = new int[21];
        int depth = 0;
        // Both ways of an if agree, so the one behind else is left out.
        boolean[] skip = new boolean[21];
        for (Item i : w.items) {
            if (i.sort == 3 || i.sort == 6) {
                depth++;
                skip[depth] = skip[depth - 1];
                open[depth] = i.sort;
            } else if (i.sort == 4) {
                skip[depth] = true;
            } else if (i.sort == 5 || i.sort == 7) {
                depth--;
            } else if (i.sort == 0 && !skip[depth]) {
                n += i.value == 7 ? 1 : i.value == 8 ? -1 : 0;
            }
        }
        return n;
    }

    static void trace(Word w, List<Word> words) {
        w.needs = 0;
        w.high = 0;
        w.most = 0;
        int[] at = {0};
        int[] steps = {0};
        Spot s = traceRow(w, words, at, new Spot(0, 0), steps);
        w.last = s.height;
        w.steps = steps[0];
    }

    static Spot traceRow(Word w, List<Word> words, int[] at, Spot from, int[] steps) {
        Spot s = from;
        while (at[0] < w.items.size()) {
            Item item = w.items.get(at[0]);
            if (item.sort == 4 || item.sort == 5 || item.sort == 7) {
                return s;
            }
            at[0]++;
            switch (item.sort) {
                case 0:
                    if (item.value == 8 && s.pushed == 0) {
                        throw new Fault(7, item.place);
                    }
                    s = move(w, s, CHANGE[item.value][0], CHANGE[item.value][1], 0, item.value == 7 ? 1 : item.value == 8 ? -1 : 0, item);
                    steps[0]++;
                    break;
                case 1:
                    s = move(w, s, 0, 1, 0, 0, item);
                    steps[0]++;
                    break;
                case 2:
                    Word called = words.get(item.value);
                    s = move(w, s, called.needs, called.needs + called.last, called.high, 0, item);
                    steps[0] += 1 + called.steps;
                    break;
                case 3:
                    s = traceIf(w, words, at, s, steps, item);
                    break;
                default:
                    item.height = s.height;
                    int[] inner = {0};
                    Spot end = traceRow(w, words, at, s, inner);
                    steps[0] += 1 + item.value * inner[0];
                    if (at[0] < w.items.size()) {
                        Item next = w.items.get(at[0]);
                        at[0]++;
                        next.height = end.height;
                        if (!end.equals(s)) {
                            throw new Fault(6, next.place);
                        }
                    }
            }
        }
        return s;
    }

    static Spot traceIf(Word w, List<Word> words, int[] at, Spot from, int[] steps, Item item) {
        Spot begin = move(w, from, 1, 0, 0, 0, item);
        int[] first = {0};
        int[] second = {0};
        Spot one = traceRow(w, words, at, begin, first);
        Spot two = begin;
        if (at[0] < w.items.size() && w.items.get(at[0]).sort == 4) {
            w.items.get(at[0]).height = begin.height;
            at[0]++;
            two = traceRow(w, words, at, begin, second);
        }
        steps[0] += 1 + Math.max(first[0], second[0]);
        if (at[0] < w.items.size()) {
            Item then = w.items.get(at[0]);
            at[0]++;
            then.height = two.height;
            if (!one.equals(two)) {
                throw new Fault(6, then.place);
            }
        }
        return two;
    }

    static Spot move(Word w, Spot s, int takes, int lays, int reach, int push, Item item) {
        Spot to = new Spot(s.height - takes + lays, s.pushed + push);
        w.needs = Math.max(w.needs, takes - s.height);
        w.high = Math.max(w.high, Math.max(to.height, s.height + reach));
        w.most = Math.max(w.most, to.pushed);
        item.height = to.height;
        if (w.needs > 6 || w.high > 12 || w.most > 6) {
            throw new Fault(7, item.place);
        }
        return to;
    }

    // ---- doing

    static int take(List<Integer> stack) {
        return stack.remove(stack.size() - 1);
    }

    static void thing(Machine m, int thing) {
        List<Integer> s = m.stack;
        int a;
        int b;
        int c;
        switch (thing) {
            case 0: a = take(s); s.addAll(List.of(a, a)); break;
            case 1: take(s); break;
            case 2: b = take(s); a = take(s); s.addAll(List.of(b, a)); break;
            case 3: b = take(s); a = take(s); s.addAll(List.of(a, b, a)); break;
            case 4: c = take(s); b = take(s); a = take(s); s.addAll(List.of(b, c, a)); break;
            case 5: b = take(s); take(s); s.add(b); break;
            case 6: b = take(s); a = take(s); s.addAll(List.of(b, a, b)); break;
            case 7: m.second.add(take(s)); break;
            case 8: s.add(take(m.second)); break;
            case 9: b = take(s); a = take(s); s.add(a + b); break;
            case 10: b = take(s); a = take(s); s.add(a - b); break;
            case 11: b = take(s); a = take(s); s.add(a * b); break;
            case 12: s.add(-take(s)); break;
            case 13: b = take(s); a = take(s); s.add(a < b ? 1 : 0); break;
            default: b = take(s); a = take(s); s.add(a == b ? 1 : 0);
        }
    }

    void doRow(Machine m, List<Item> row) {
        int i = 0;
        while (i < row.size()) {
            Item item = row.get(i);
            int end = item.sort == 3 || item.sort == 6 ? closeOf(row, i) : i;
            if (item.sort == 0) {
                thing(m, item.value);
            } else if (item.sort == 1) {
                m.stack.add(item.value);
            } else if (item.sort == 2) {
                doRow(m, words.get(item.value).items);
            } else if (item.sort == 6) {
                for (int n = 0; n < item.value; n++) {
                    doRow(m, row.subList(i + 1, end));
                }
            } else if (item.sort == 3) {
                int other = elseOf(row, i, end);
                if (take(m.stack) != 0) {
                    doRow(m, row.subList(i + 1, other));
                } else if (other < end) {
                    doRow(m, row.subList(other + 1, end));
                }
            }
            i = end + 1;
        }
    }

    static int closeOf(List<Item> row, int from) {
        int depth = 0;
        for (int i = from; ; i++) {
            int sort = row.get(i).sort;
            depth += sort == 3 || sort == 6 ? 1 : sort == 5 || sort == 7 ? -1 : 0;
            if (depth == 0) {
                return i;
            }
        }
    }

    static int elseOf(List<Item> row, int from, int end) {
        int depth = 0;
        for (int i = from; i < end; i++) {
            int sort = row.get(i).sort;
            depth += sort == 3 || sort == 6 ? 1 : sort == 5 || sort == 7 ? -1 : 0;
            if (depth == 1 && sort == 4) {
                return i;
            }
        }
        return end;
    }

    boolean has(int word) {
        return word >= 0 && word < words.size();
    }

    void act(Machine after) {
        past.add(machine);
        if (past.size() > 40) {
            past.remove(0);
        }
        future.clear();
        machine = after;
    }

    int lay(int n) {
        if (n < 0 || n > 9999 || machine.stack.size() == 24) {
            return -1;
        }
        Machine m = machine.copy();
        m.stack.add(n);
        act(m);
        return m.stack.size();
    }

    int run(int t) {
        if (t < 0 || t > 14) {
            return -1;
        }
        int size = machine.stack.size();
        if (size < CHANGE[t][0] || size - CHANGE[t][0] + CHANGE[t][1] > 24
            || t == 7 && machine.second.size() == 6 || t == 8 && machine.second.isEmpty()) {
            return -1;
        }
        Machine m = machine.copy();
        thing(m, t);
        act(m);
        return m.stack.size();
    }

    int call(int word) {
        if (!has(word) || machine.stack.size() < words.get(word).needs || machine.stack.size() + words.get(word).high > 24) {
            return -1;
        }
        Machine m = machine.copy();
        doRow(m, words.get(word).items);
        act(m);
        return m.stack.size();
    }

    int clear() {
        int n = machine.stack.size() + machine.second.size();
        if (n == 0) {
            return -1;
        }
        Machine m = machine.copy();
        m.stack.clear();
        m.second.clear();
        act(m);
        return n;
    }

    static int bits(Set<Integer> set) {
        int bits = 0;
        for (int i : set) {
            bits |= 1 << i;
        }
        return bits;
    }

    int inline(int word) {
        if (!has(word)) {
            return -1;
        }
        Machine m = machine.copy();
        if (!m.inlined.add(word)) {
            m.inlined.remove(word);
        }
        act(m);
        return bits(m.inlined);
    }

    int flip() {
        Machine m = machine.copy();
        m.seed = (m.seed * 137 + 71) % 1000;
        int bit = -1;
        if (m.seed % 100 < flips && !m.stack.isEmpty()) {
            bit = m.seed / 100;
            m.stack.add(take(m.stack) ^ 1 << bit);
        }
        act(m);
        return bit;
    }

    boolean undo() {
        if (past.isEmpty()) {
            return false;
        }
        future.add(machine);
        machine = past.remove(past.size() - 1);
        return true;
    }

    boolean redo() {
        if (future.isEmpty()) {
            return false;
        }
        past.add(machine);
        machine = future.remove(future.size() - 1);
        return true;
    }

    static int fromTop(List<Integer> stack, int i, int none) {
        return i < 0 || i >= stack.size() ? none : stack.get(stack.size() - 1 - i);
    }

    List<Integer> after(List<Item> items, Integer... cells) {
        Machine m = new Machine();
        m.stack.addAll(Arrays.asList(cells));
        doRow(m, items);
        return m.stack;
    }

    int comes(int word, int a, int b, int c, int i) {
        return !has(word) || words.get(word).needs > 3 ? 0 : fromTop(after(words.get(word).items, a, b, c), i, 0);
    }

    boolean comparable(int word, int other) {
        Word w = words.get(word);
        Word o = words.get(other);
        return w.needs == o.needs && w.needs <= 3 && w.needs + w.last == o.needs + o.last;
    }

    int differs(int word, int other) {
        if (!has(word) || !has(other) || !comparable(word, other)) {
            return -1;
        }
        int needs = words.get(word).needs;
        for (int told = 0; told <= 333; told++) {
            Integer[] cells = {told / 100, told / 10 % 10, told % 10};
            boolean can = true;
            for (int i = 0; i < 3; i++) {
                can &= cells[i] <= 3 && (i >= 3 - needs || cells[i] == 0);
            }
            if (can) {
                Integer[] those = Arrays.copyOfRange(cells, 3 - needs, 3);
                if (!after(words.get(word).items, those).equals(after(words.get(other).items, those))) {
                    return told;
                }
            }
        }
        return -1;
    }

    int alike(int word, int other) {
        if (!has(word) || !has(other)) {
            return -1;
        }
        return comparable(word, other) && differs(word, other) == -1 ? 1 : 0;
    }

    // ---- shuffles

    static String shuffle(String row, int t) {
        if (row.length() < CHANGE[t][0]) {
            return null;
        }
        Machine m = new Machine();
        for (char c : row.toCharArray()) {
            m.stack.add((int) c);
        }
        thing(m, t);
        StringBuilder b = new StringBuilder();
        for (int c : m.stack) {
            b.append((char) c);
        }
        return b.length() > 5 ? null : b.toString();
    }

    record Way(int cost, String told, String row) { }

    /** null if by none, or it can't be. */
    Way cheapestWay(int n, int row, int[] prices) {
        String target = row == 0 ? "" : Integer.toString(row);
        if (n < 0 || n > 3 || !target.matches("[1-" + Math.max(1, n) + "]{0,4}") || n == 0 && row != 0) {
            return null;
        }
        PriorityQueue<Way> queue = new PriorityQueue<>((x, y) -> x.cost != y.cost ? x.cost - y.cost
            : x.told.length() != y.told.length() ? x.told.length() - y.told.length() : x.told.compareTo(y.told));
        Set<String> done = new HashSet<>();
        queue.add(new Way(0, "", "123".substring(0, n)));
        while (!queue.isEmpty()) {
            Way way = queue.poll();
            if (!done.add(way.row)) {
                continue;
            }
            if (way.row.equals(target)) {
                return way;
            }
            for (int t = 0; t < 7; t++) {
                String to = shuffle(way.row, t);
                if (to != null) {
                    queue.add(new Way(way.cost + prices[t], way.told + t, to));
                }
            }
        }
        return null;
    }

    int lieDown(Way way, boolean cost) {
        lying.clear();
        if (way == null) {
            return -1;
        }
        for (char c : way.told.toCharArray()) {
            lying.add(c - '0');
        }
        return cost ? way.cost : way.told.length();
    }

    int shortest(int n, int row) {
        return lieDown(cheapestWay(n, row, new int[7]), false);
    }

    int cheapest(int n, int row) {
        int[] prices = new int[7];
        for (int t = 0; t < 7; t++) {
            prices[t] = takes(0, t);
        }
        return lieDown(cheapestWay(n, row, prices), true);
    }

    int shuffled(int n, int told) {
        if (n < 0 || n > 3 || told < 0 || told > 9999999) {
            return -1;
        }
        String row = "123".substring(0, n);
        for (char c : (told == 0 ? "" : Integer.toString(told)).toCharArray()) {
            row = c < '1' || c > '7' || row == null ? null : shuffle(row, c - '1');
        }
        return row == null || row.length() > 4 ? -1 : row.isEmpty() ? 0 : Integer.parseInt(row);
    }

    int tidy(int word) {
        if (!has(word)) {
            return -1;
        }
        List<Item> items = words.get(word).items;
        int less = 0;
        int i = 0;
        while (i < items.size()) {
            int goOn = i + 1;
            for (int end = i + 1; end <= Math.min(items.size(), i + 6); end++) {
                Item last = items.get(end - 1);
                if (last.sort != 0 || last.value > 6) {
                    break;
                }
                // The fewest cells with which the run can be done are those which it needs.
                String to = null;
                int n = 0;
                while (n <= 3 && to == null) {
                    String row = "123".substring(0, n);
                    boolean tooFew = false;
                    for (int j = i; j < end && row != null; j++) {
                        tooFew |= row.length() < CHANGE[items.get(j).value][0];
                        row = shuffle(row, items.get(j).value);
                    }
                    if (row == null && !tooFew) {
                        n = 9;
                    } else if (row == null) {
                        n++;
                    } else {
                        to = row;
                    }
                }
                if (to != null && to.length() <= 4) {
                    goOn = end;
                }
            }
            less += tidyRun(items, i, goOn);
            i = goOn;
        }
        return less;
    }

    int tidyRun(List<Item> items, int from, int end) {
        if (items.get(from).sort != 0 || items.get(from).value > 6) {
            return 0;
        }
        for (int n = 0; n <= 3; n++) {
            String row = "123".substring(0, n);
            for (int j = from; j < end && row != null; j++) {
                row = shuffle(row, items.get(j).value);
            }
            if (row != null) {
                return end - from - cheapestWay(n, row.isEmpty() ? 0 : Integer.parseInt(row), new int[7]).told.length();
            }
        }
        throw new IllegalStateException("a run that is none");
    }

    // ---- costs

    int takes(int form, int kind) {
        if (form < 0 || form > 2 || kind < 0 || kind > 18) {
            return -1;
        }
        return Math.min(99, Math.max(0, formula.applyAsInt(form, kind)));
    }

    int timeOf(List<Item> row, Set<Integer> inlined, int form, int all) {
        int sum = 0;
        int i = 0;
        while (i < row.size()) {
            Item item = row.get(i);
            int end = item.sort == 3 || item.sort == 6 ? closeOf(row, i) : i;
            int kind = item.sort == 0 ? item.value : item.sort == 1 ? 15 : item.sort == 2 ? 16 : item.sort == 3 ? 17 : 18;
            int price = all >= 0 ? all : takes(form, kind);
            if (item.sort == 2) {
                sum += timeOf(words.get(item.value).items, inlined, form, all) + (inlined.contains(item.value) ? 0 : price);
            } else if (item.sort == 3) {
                int other = elseOf(row, i, end);
                int one = timeOf(row.subList(i + 1, other), inlined, form, all);
                int two = other == end ? 0 : timeOf(row.subList(other + 1, end), inlined, form, all);
                sum += price + Math.max(one, two);
            } else if (item.sort == 6) {
                sum += item.value * (price + timeOf(row.subList(i + 1, end), inlined, form, all));
            } else {
                sum += price;
            }
            i = end + 1;
        }
        return sum;
    }

    int time(int word, int form) {
        return !has(word) || form < 0 || form > 2 ? -1 : timeOf(words.get(word).items, machine.inlined, form, -1);
    }

    int roomOfItems(int word, int form) {
        int sum = 0;
        for (Item item : words.get(word).items) {
            if (item.sort == 2 && machine.inlined.contains(item.value)) {
                sum += roomOfItems(item.value, form);
            } else {
                sum += new int[] {1, form == 2 ? 3 : 2, 1, 2, 2, 0, 2, 2}[item.sort];
            }
        }
        return sum;
    }

    int room(int word, int form) {
        return !has(word) || form < 0 || form > 2 ? -1 : 1 + form + roomOfItems(word, form);
    }

    int best(int word) {
        if (!has(word)) {
            return -1;
        }
        List<Integer> forms = new ArrayList<>(List.of(0, 1, 2));
        forms.sort((x, y) -> time(word, x) != time(word, y) ? time(word, x) - time(word, y) : room(word, x) - room(word, y));
        return forms.get(0);
    }

    int total(int form) {
        if (form < 0 || form > 2) {
            return -1;
        }
        int sum = 0;
        for (int w = 0; w < words.size(); w++) {
            sum += machine.inlined.contains(w) ? 0 : room(w, form);
        }
        return sum;
    }

    int calls(int word) {
        if (!has(word)) {
            return -1;
        }
        Set<Integer> called = new HashSet<>();
        for (Item item : words.get(word).items) {
            if (item.sort == 2) {
                called.add(item.value);
            }
        }
        return bits(called);
    }

    boolean reaches(int from, int to) {
        for (int w = 0; w < words.size(); w++) {
            if ((calls(from) >> w & 1) == 1 && (w == to || reaches(w, to))) {
                return true;
            }
        }
        return false;
    }

    int callers(int word) {
        if (!has(word)) {
            return -1;
        }
        int bits = 0;
        for (int w = 0; w < words.size(); w++) {
            bits |= reaches(w, word) ? 1 << w : 0;
        }
        return bits;
    }

    int nested(int word) {
        if (!has(word)) {
            return -1;
        }
        int most = 0;
        for (int w = 0; w < words.size(); w++) {
            if ((calls(word) >> w & 1) == 1) {
                most = Math.max(most, nested(w));
            }
        }
        return most + 1;
    }

    int pick(int form) {
        if (form < 0 || form > 2 || words.isEmpty()) {
            return -1;
        }
        List<Item> last = words.get(words.size() - 1).items;
        int least = timeOf(last, machine.inlined, form, -1);
        int found = -1;
        for (int w = 0; w < words.size(); w++) {
            Set<Integer> with = new HashSet<>(machine.inlined);
            if (with.add(w) && timeOf(last, with, form, -1) < least) {
                least = timeOf(last, with, form, -1);
                found = w;
            }
        }
        return found;
    }

    int commonest() {
        int[] often = new int[15];
        for (Word w : words) {
            for (Item item : w.items) {
                often[item.sort == 0 ? item.value : 0] += item.sort == 0 ? 1 : 0;
            }
        }
        int most = 0;
        int found = -1;
        for (int t = 14; t >= 0; t--) {
            if (often[t] > 0 && often[t] >= most) {
                most = often[t];
                found = t;
            }
        }
        return found;
    }

    int height(int word, int i) {
        return !has(word) || i < 0 || i >= words.get(word).items.size() ? -100 : words.get(word).items.get(i).height;
    }

    int pure() {
        int bits = 0;
        for (int w = 0; w < words.size(); w++) {
            boolean all = true;
            for (Item item : words.get(w).items) {
                all &= item.sort == 0 && item.value <= 6;
            }
            bits |= all ? 1 << w : 0;
        }
        return bits;
    }

    int law(int n) {
        return words.isEmpty() || n < 0 || n > 99 ? -1 : timeOf(words.get(words.size() - 1).items, machine.inlined, 0, n);
    }

    int odds(int n, int part) {
        if (n < 0 || n > 4 || part < 0 || part > 1) {
            return -1;
        }
        java.math.BigInteger up = java.math.BigInteger.valueOf(100 - flips).pow(n);
        java.math.BigInteger low = java.math.BigInteger.valueOf(100).pow(n);
        return (part == 0 ? up : low).divide(up.gcd(low)).intValueExact();
    }

    // ---- sightings

    int seen(int a, int b, int c, int top, boolean is) {
        if (Math.min(a, Math.min(b, c)) < 0 || Math.max(a, Math.max(b, c)) > 9 || seen.size() == 30 || words.isEmpty()) {
            return -1;
        }
        seen.add(new Seen(a, b, c, top, is, time, new int[] {-1}));
        return seen.size() - 1;
    }

    boolean untell(int i) {
        if (i < 0 || i >= seen.size() || seen.get(i).untold[0] >= 0) {
            return false;
        }
        seen.get(i).untold[0] = time;
        return true;
    }

    int later(int by) {
        if (by < 0 || by > 1000 || time + by > 100000) {
            return -1;
        }
        time += by;
        return time;
    }

    Word lastWith(int thing) {
        Word w = new Word();
        for (Item old : words.get(words.size() - 1).items) {
            Item item = new Item();
            item.sort = w.items.isEmpty() ? 0 : old.sort;
            item.value = w.items.isEmpty() ? thing : old.value;
            w.items.add(item);
        }
        return w;
    }

    List<Integer> fitting(int k) {
        List<Integer> fitting = new ArrayList<>();
        if (words.isEmpty()) {
            return fitting;
        }
        List<Item> items = words.get(words.size() - 1).items;
        if (items.isEmpty() || items.get(0).sort > 2) {
            return fitting;
        }
        for (int t = 0; t < 15; t++) {
            Word w = lastWith(t);
            try {
                trace(w, words);
            } catch (Fault f) {
                continue;
            }
            if (pushedAtEnd(w) != 0 || w.steps > 2000 || w.needs > 3 || 3 + w.last < 1) {
                continue;
            }
            boolean all = true;
            for (Seen s : seen) {
                boolean counts = s.told <= k && !(s.untold[0] >= 0 && s.untold[0] <= k);
                if (counts) {
                    all &= (fromTop(after(w.items, s.a, s.b, s.c), 0, 0) == s.top) == s.is;
                }
            }
            if (all) {
                fitting.add(t);
            }
        }
        return fitting;
    }

    int fits(int k) {
        return fitting(k).size();
    }

    int fit(int i, int k) {
        List<Integer> fitting = fitting(k);
        return i < 0 || i >= fitting.size() ? -1 : fitting.get(i);
    }

    int ask(int a, int b, int what, int k) {
        List<Integer> fitting = fitting(k);
        if (a < 0 || a > 9 || b < 0 || b > 9 || what < 0 || what > 1 || fitting.isEmpty()) {
            return -1;
        }
        int[] left = new int[10];
        for (int c = 0; c <= 9; c++) {
            Map<Integer, Integer> outcomes = new HashMap<>();
            for (int t : fitting) {
                left[c] = Math.max(left[c], outcomes.merge(fromTop(after(lastWith(t).items, a, b, c), 0, 0), 1, Integer::sum));
            }
        }
        int best = 0;
        for (int c = 9; c >= 0; c--) {
            best = left[c] <= left[best] || c == 9 ? c : best;
        }
        for (int c = 0; c <= 9; c++) {
            if (left[c] < left[best]) {
                throw new IllegalStateException("not the best");
            }
        }
        return what == 0 ? best : left[best];
    }

    // ---- the rest

    int image(int box) {
        if (box < 0 || box > 2) {
            return -1;
        }
        boxes.put(box, machine.copy());
        return machine.stack.size();
    }

    int back(int box) {
        if (!boxes.containsKey(box)) {
            return -1;
        }
        machine = boxes.get(box).copy();
        past.clear();
        future.clear();
        return machine.stack.size();
    }

    int word(int word, int what) {
        if (!has(word) || what < 0 || what > 6) {
            return -1;
        }
        Word w = words.get(word);
        return new int[] {w.items.size(), w.needs, w.needs + w.last, w.high, w.most, w.steps, machine.inlined.contains(word) ? 1 : 0}[what];
    }

    int item(int word, int i, int what) {
        if (!has(word) || i < 0 || i >= words.get(word).items.size() || what < 0 || what > 1) {
            return -1;
        }
        Item item = words.get(word).items.get(i);
        return what == 0 ? item.sort : item.value;
    }

    int about(int what) {
        int items = 0;
        for (Word w : words) {
            items += w.items.size();
        }
        int[] all = {words.size(), items, machine.stack.size(), machine.second.size(), bits(machine.inlined), machine.seed, past.size(),
            future.size(), seen.size(), time, tape.length(), units, lying.size(), flips};
        return what < 0 || what >= all.length ? -1 : all[what];
    }
}
