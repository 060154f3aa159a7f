import java.util.Arrays;
import java.util.function.Supplier;

/**
 * Promises 8 to 17 and 46 to 48, at the edges: empty and full stacks, numbers that wrap around, the oldest ACT that is kept,
 * and what a call that can't be leaves as it was.
 */
public final class MachineEdgesTest {
    private static final int LEAST = Integer.MIN_VALUE;
    private static final int MOST = Integer.MAX_VALUE;
    private static final int[] OFF = {1, 1, 2, 2, 3, 2, 2, 1, 0, 2, 2, 2, 1, 2, 2};
    private static final int[] ON = {2, 0, 2, 3, 3, 1, 3, 0, 1, 1, 1, 1, 1, 1, 1};

    public static void main(String[] args) {
        laying();
        everyThing();
        emptyStack();
        fullStack();
        secondStack();
        noSuchThing();
        wrapping();
        branches();
        onlyCell();
        callsThatNeed();
        callsThatGoHigh();
        callsWithThingsPutBy();
        mostPutBy();
        refusedCalls();
        clearing();
        inlining();
        flipsThatTurn();
        everyBit();
        oldestActs();
        everyActUndone();
        undoneTillAnotherAct();
        cellsThatAreNot();
        boxes();
        boxesAndCodes();
        abouts();
        longUse();
        Check.done();
    }

    private static StackWords cells(int many) {
        StackWords x = new StackWords();
        for (int n = 1; n <= many; n++) {
            x.lay(n);
        }
        return x;
    }

    private static void stack(StackWords x, String told, int... due) {
        Check.due(told + ": how many", x.about(2), due.length);
        for (int i = 0; i < due.length; i++) {
            Check.due(told + ": cell " + i, x.cell(due.length - 1 - i), due[i]);
        }
    }

    /** Promise 8: '(0 .. 9999)', 'if there is no room, or it can't be'. */
    private static void laying() {
        StackWords x = new StackWords();
        Check.due("lay(0)", x.lay(0), 1);
        Check.due("lay(9999)", x.lay(9999), 2);
        stack(x, "both", 0, 9999);
        Check.due("the 24th", cells(23).lay(7), 24);
        int[] never = {LEAST, -1, 10000, 10001, MOST};
        for (int n : never) {
            Check.leavesAll("lay(" + n + ")", Made::fresh, y -> y.lay(n), -1);
            Check.leavesAll("lay(" + n + ")", Made::rich, y -> y.lay(n), -1);
        }
        Check.leavesAll("the 25th", Made::full, y -> y.lay(7), -1);
        Check.leavesAll("the 25th", () -> cells(24), y -> y.lay(0), -1);
    }

    /** Part 2: what each THING takes and lays (the last one named is the top), and nothing beneath is touched. */
    private static void everyThing() {
        String[] names = {"dup", "drop", "swap", "over", "rot", "nip", "tuck", "push", "pop", "add", "sub", "mul", "neg", "less", "same"};
        int[][] due = {{1, 2, 6, 7, 8, 8}, {1, 2, 6, 7}, {1, 2, 6, 8, 7}, {1, 2, 6, 7, 8, 7}, {1, 2, 7, 8, 6}, {1, 2, 6, 8}, {1, 2, 6, 8, 7, 8}, {1, 2, 6, 7},
            {1, 2, 6, 7, 8, 77}, {1, 2, 6, 15}, {1, 2, 6, -1}, {1, 2, 6, 56}, {1, 2, 6, 7, -8}, {1, 2, 6, 1}, {1, 2, 6, 0}};
        int[] laid = {1, 2, 6, 7, 8};
        for (int thing = 0; thing < 15; thing++) {
            boolean second = thing == 7 || thing == 8;
            StackWords x = Check.of("word a = " + (second ? "push pop" : names[thing]) + ";");
            x.lay(77);
            x.run(7);
            for (int n : laid) {
                x.lay(n);
            }
            Check.due("by hand " + names[thing], x.run(thing), due[thing].length);
            stack(x, "by hand " + names[thing], due[thing]);
            Check.due("put by " + names[thing], x.about(3), thing == 7 ? 2 : thing == 8 ? 0 : 1);
            Check.due("the top of them " + names[thing], x.put(0), thing == 7 ? 8 : thing == 8 ? 0 : 77);
            x.undo();
            stack(x, "undone " + names[thing], laid);
            x.call(0);
            stack(x, "by a word " + names[thing], second ? laid : due[thing]);
            Check.due("put by as it was", x.put(0), 77);
        }
    }

    /** Promise 9: 'the cells that it takes must be there'. */
    private static void emptyStack() {
        for (int thing = 0; thing < 15; thing++) {
            int t = thing;
            if (thing == 8) {
                continue;
            }
            StackWords x = cells(OFF[t]);
            Check.due("just enough for " + t, x.run(t), ON[t]);
            Check.due("an act", x.about(6), OFF[t] + 1);
            Check.leavesAll("one too few for " + t, () -> cells(OFF[t] - 1), y -> y.run(t), -1);
        }
        Check.leavesAll("nothing to pop", () -> cells(3), y -> y.run(8), -1);
    }

    /** Promise 9: 'room for what it lays'. */
    private static void fullStack() {
        for (int thing = 0; thing < 15; thing++) {
            int t = thing;
            int more = ON[t] - OFF[t];
            Supplier<StackWords> full = () -> putBy(24);
            if (more > 0) {
                Check.leavesAll("no room for " + t, full, y -> y.run(t), -1);
                Check.due("just room for " + t, putBy(23).run(t), 24);
            } else {
                Check.due("room for " + t, full.get().run(t), 24 + more);
            }
        }
    }

    /** So many cells, and one put by. */
    private static StackWords putBy(int cells) {
        StackWords x = new StackWords();
        x.lay(77);
        x.run(7);
        for (int n = 1; n <= cells; n++) {
            x.lay(n);
        }
        return x;
    }

    /** 'push, pop done by hand: 6 at most'. */
    private static void secondStack() {
        StackWords x = cells(7);
        for (int n = 1; n <= 6; n++) {
            Check.due("push " + n, x.run(7), 7 - n);
            Check.due("put by", x.about(3), n);
        }
        Check.due("a seventh", x.run(7), -1);
        Check.leavesAll("a seventh", () -> {
            StackWords y = cells(8);
            for (int n = 1; n <= 6; n++) {
                y.run(7);
            }
            return y;
        }, y -> y.run(7), -1);
        for (int n = 1; n <= 6; n++) {
            Check.due("pop " + n, x.run(8), n + 1);
            Check.due("the top is", x.cell(0), n + 1);
        }
        Check.due("none left", x.run(8), -1);
        stack(x, "all are back", 1, 2, 3, 4, 5, 6, 7);
    }

    private static void noSuchThing() {
        int[] never = {LEAST, -1, 15, 16, 31, 32, MOST};
        for (int thing : never) {
            Check.leavesAll("run(" + thing + ")", Made::rich, x -> x.run(thing), -1);
            Check.leavesAll("run(" + thing + ")", Made::fresh, x -> x.run(thing), -1);
        }
    }

    /** '(Ints, wrapping.)' */
    private static void wrapping() {
        StackWords x = Check.of("word a = add; word b = sub; word c = mul; word d = neg; word f = less; word g = same;");
        int[][] due = {
            {0, MOST, 1, LEAST}, {0, LEAST, -1, MOST}, {0, LEAST, LEAST, 0}, {0, MOST, MOST, -2}, {0, MOST, LEAST, -1},
            {1, LEAST, 1, MOST}, {1, MOST, -1, LEAST}, {1, 0, LEAST, LEAST}, {1, LEAST, LEAST, 0}, {1, -1, LEAST, MOST}, {1, MOST, LEAST, -1},
            {2, 65536, 65536, 0}, {2, 46341, 46341, -2147479015}, {2, MOST, MOST, 1}, {2, LEAST, -1, LEAST}, {2, LEAST, 2, 0}, {2, MOST, 2, -2},
            {3, 0, LEAST, LEAST}, {3, 0, MOST, -MOST}, {3, 0, 0, 0}, {3, 0, -1, 1},
            {4, LEAST, MOST, 1}, {4, MOST, LEAST, 0}, {4, -1, 0, 1}, {4, 0, -1, 0}, {4, 3, 3, 0}, {4, 3, 4, 1}, {4, LEAST, LEAST, 0},
            {5, LEAST, LEAST, 1}, {5, LEAST, MOST, 0}, {5, 0, 0, 1}, {5, -1, 1, 0}, {5, 128, 128, 1}, {5, 3, 4, 0}};
        for (int[] d : due) {
            Check.due("word " + d[0] + " of " + d[1] + " " + d[2], x.comes(d[0], 5, d[1], d[2], 0), d[3]);
        }
        StackWords y = cells(0);
        y.lay(9999);
        int want = 9999;
        for (int n = 1; n <= 30; n++) {
            y.run(0);
            y.run(n % 2 == 0 ? 9 : 11);
            want = n % 2 == 0 ? want + want : want * want;
            Check.due("on the stack, " + n, y.cell(0), want);
        }
    }

    /** 'if it is not 0, what is behind it is done, else what is behind else, if there is one'; 'times does .. so many times'. */
    private static void branches() {
        StackWords x = Check.of("word a = if 10 else 20 then; word b = 5 swap if 1 add then; word c = times 1 1 add next; word d = times 9 1 add next;"
            + "word f = times 3 times 4 1 add next next; word g = times 2 dup if 1 sub else then next;");
        StackWords behind = Check.of("word a = if neg then 1 add; word b = if neg else 5 add then 1 add; word c = times 2 1 if 1 add then next 10 mul; word d = c if b else a then neg;");
        int[] notZero = {1, -1, 2, 256, 65536, LEAST, MOST};
        for (int n : notZero) {
            Check.due("not 0: " + n, x.comes(0, 7, 8, n, 0), 10);
            Check.due("without else: " + n, x.comes(1, 7, 8, n, 0), 6);
        }
        Check.due("0", x.comes(0, 7, 8, 0, 0), 20);
        Check.due("0 without else", x.comes(1, 7, 8, 0, 0), 5);
        Check.due("once", x.comes(2, 0, 0, 100, 0), 101);
        Check.due("nine times", x.comes(3, 0, 0, 100, 0), 109);
        Check.due("three times four", x.comes(4, 0, 0, 100, 0), 112);
        Check.due("a way in a loop", x.comes(5, 0, 0, 1, 0), 0);
        Check.due("a way in a loop", x.comes(5, 0, 0, 5, 0), 3);
        Check.due("what is behind then", behind.comes(0, 0, 7, 1, 0), -6);
        Check.due("what is behind then", behind.comes(0, 0, 7, 0, 0), 8);
        Check.due("what is behind then", behind.comes(1, 0, 7, 1, 0), -6);
        Check.due("what is behind then", behind.comes(1, 0, 7, 0, 0), 13);
        Check.due("what is behind next", behind.comes(2, 0, 7, 1, 0), 30);
        // c makes 30 of 1, so b is done with 3 and 0; of -2 it makes 0, so a is.
        Check.due("words on ways", behind.comes(3, 3, 0, 1, 0), -9);
        Check.due("words on ways", behind.comes(3, 3, 0, -2, 0), -4);
    }

    /** An if that takes the only cell there is. */
    private static void onlyCell() {
        int[][] due = {{0, 20}, {1, 10}, {9999, 10}};
        for (int[] d : due) {
            StackWords x = Check.of("word a = if 10 else 20 then; word b = if then;");
            x.lay(d[0]);
            Check.due("one cell then", x.call(0), 1);
            stack(x, "if of " + d[0], d[1]);
            x.undo();
            Check.due("none then", x.call(1), 0);
            stack(x, "if then of " + d[0]);
        }
    }

    /** Promise 10: 'what it NEEDS must be there'. */
    private static void callsThatNeed() {
        String text = "word a = ; word b = neg; word c = add; word d = rot; word f = drop drop drop drop drop; word g = drop drop drop drop drop drop;";
        int[] needs = {0, 1, 2, 3, 5, 6};
        for (int word = 0; word < 6; word++) {
            int w = word;
            StackWords x = laid(text, needs[w]);
            Check.due("just enough for " + w, x.call(w), x.word(w, 2));
            Check.due("an act", x.about(6), needs[w] + 1);
            if (needs[w] > 0) {
                Check.leavesAll("one too few for " + w, () -> laid(text, needs[w] - 1), y -> y.call(w), -1);
            }
        }
        // What it NEEDS must be there whichever way it goes: here the way that takes three is not gone.
        StackWords way = laid("word a = 0 if drop drop drop 1 1 1 then;", 2);
        Check.due("on a way not gone", way.call(0), -1);
        way.lay(1);
        Check.due("on a way not gone", way.call(0), 3);
    }

    private static StackWords laid(String text, int many) {
        StackWords x = Check.of(text);
        for (int n = 1; n <= many; n++) {
            x.lay(n);
        }
        return x;
    }

    /** Promise 10: 'room for as HIGH as it goes'. */
    private static void callsThatGoHigh() {
        String text = "word a = ; word b = 1 drop; word c = dup drop; word d = 1 1 1 1 1 1 1 1 1 1 1 1; word f = 0 if 1 1 1 drop drop drop then; word g = d times 9 neg next;";
        int[] high = {0, 1, 1, 12, 3, 12};
        for (int word = 0; word < 6; word++) {
            int w = word;
            StackWords x = laid(text, 24 - high[w]);
            Check.due("high " + w, x.word(w, 3), high[w]);
            Check.due("just room for " + w, x.call(w), w == 3 || w == 5 ? 24 : 24 - high[w]);
            if (high[w] > 0) {
                Check.leavesAll("no room for " + w, () -> laid(text, 25 - high[w]), y -> y.call(w), -1);
            }
        }
        // As HIGH as it goes counts from what is there, though it takes some of that first.
        StackWords taken = laid("word a = drop drop 1 1 1;", 23);
        Check.due("high from below", taken.call(0), 24);
        Check.due("no room", taken.call(0), -1);
    }

    /** Nineteen put by at once is the most that six WORDS of 60 ITEMS can, 12 HIGH; and six by hand are beneath them. */
    private static void mostPutBy() {
        StringBuilder text = new StringBuilder("word a = push push push push push push pop pop pop pop pop pop;");
        String called = "a";
        for (String name : new String[] {"b", "c", "d", "f", "g"}) {
            int many = name.equals("g") ? 1 : 3;
            text.append("word ").append(name).append(" = ").append("1 ".repeat(many)).append("push ".repeat(many)).append(called)
                .append(" pop".repeat(many)).append(name.equals("b") ? " drop;" : ";");
            called = name;
        }
        StackWords x = Check.of(text.toString());
        Check.due("items", x.about(1), 57);
        Check.due("high", x.word(5, 3), 12);
        for (int n = 1; n <= 6; n++) {
            x.lay(70 + n);
            x.run(7);
        }
        for (int n = 1; n <= 6; n++) {
            x.lay(n);
        }
        Check.due("call", x.call(5), 18);
        int[] due = new int[18];
        Arrays.fill(due, 1);
        for (int n = 1; n <= 6; n++) {
            due[n - 1] = n;
        }
        stack(x, "all came back", due);
        for (int i = 0; i < 6; i++) {
            Check.due("put " + i, x.put(i), 76 - i);
        }
    }

    private static void callsWithThingsPutBy() {
        StackWords x = Check.of("word a = push push push push push push pop pop pop pop pop pop; word b = push neg pop;");
        for (int n = 1; n <= 12; n++) {
            x.lay(n);
        }
        for (int n = 1; n <= 6; n++) {
            x.run(7);
        }
        Check.due("six more are put by within", x.call(0), 6);
        stack(x, "as it was", 1, 2, 3, 4, 5, 6);
        Check.due("put by as it was", x.about(3), 6);
        Check.due("one more within", x.call(1), 6);
        stack(x, "the second", 1, 2, 3, 4, -5, 6);
        for (int i = 0; i < 6; i++) {
            Check.due("put " + i, x.put(i), 7 + i);
        }
    }

    private static void refusedCalls() {
        int[] never = {LEAST, -1, 3, 4, 6, 32, MOST};
        for (int word : never) {
            Check.leavesAll("call(" + word + ")", Made::rich, x -> x.call(word), -1);
            Check.leavesAll("inline(" + word + ")", Made::rich, x -> x.inline(word), -1);
        }
        Check.leavesAll("call without words", Made::fresh, x -> x.call(0), -1);
        Check.leavesAll("inline without words", Made::fresh, x -> x.inline(0), -1);
    }

    /** Promise 11: 'NONE, doing nothing, if there are none'. */
    private static void clearing() {
        Check.leavesAll("clear of none", Made::fresh, StackWords::clear, -1);
        Check.due("one cell", cells(1).clear(), 1);
        StackWords x = putBy(0);
        Check.due("one put by alone", x.clear(), 1);
        Check.due("none there", x.about(3), 0);
        Check.due("clear of none", x.clear(), -1);
        Check.due("acts", x.about(6), 3);
        Check.due("undo", x.undo(), true);
        Check.due("put by again", x.put(0), 77);
        StackWords full = Made.full();
        int seed = full.about(5);
        int inlined = full.about(4);
        Check.due("30 of both", full.clear(), 30);
        Check.due("no cells", full.about(2), 0);
        Check.due("none put by", full.about(3), 0);
        Check.due("the seed stays", full.about(5), seed);
        Check.due("what is inlined stays", full.about(4), inlined);
        Check.due("an act", full.about(6), 40);
        Check.due("undo", full.undo(), true);
        Check.due("24 again", full.about(2), 24);
        Check.due("6 again", full.about(3), 6);
    }

    /** Promise 12. */
    private static void inlining() {
        StackWords x = Check.of("word a=;word b=;word c=;word d=;word f=;word g=;");
        int bits = 0;
        for (int word = 0; word < 6; word++) {
            bits |= 1 << word;
            Check.due("inline", x.inline(word), bits);
            Check.due("it is", x.word(word, 6), 1);
        }
        Check.due("all six", x.about(4), 63);
        Check.due("no seventh", x.inline(6), -1);
        Check.due("as it was", x.about(4), 63);
        Check.due("not any more", x.inline(0), 62);
        Check.due("not any more", x.inline(5), 30);
        Check.due("acts", x.about(6), 8);
        Check.due("undo", x.undo(), true);
        Check.due("again", x.about(4), 62);
        Check.due("undo", x.undo(), true);
        Check.due("again", x.about(4), 63);
        Check.due("redo", x.redo(), true);
        Check.due("not any more", x.about(4), 62);
    }

    /** 'if its rest by 100 is less than flips tells and there is a cell'. */
    private static void flipsThatTurn() {
        // From 0 the SEED becomes 71, 798, 397, 460: rests 71, 98, 97, 60.
        int[] seeds = {71, 798, 397, 460};
        int[] flips = {0, 60, 61, 71, 72, 97, 98, 99, 100};
        for (int f : flips) {
            StackWords x = laid("flips " + f + ";", 1);
            for (int seed : seeds) {
                Check.due("flips " + f + " at " + seed, x.flip(), seed % 100 < f ? seed / 100 : -1);
                Check.due("the seed", x.about(5), seed);
            }
            Check.due("acts", x.about(6), 5);
            StackWords none = Check.of("flips " + f + ";");
            for (int seed : seeds) {
                Check.due("no cell", none.flip(), -1);
                Check.due("the seed", none.about(5), seed);
            }
            Check.due("acts all the same", none.about(6), 4);
            Check.due("no cell came", none.about(2), 0);
            StackWords second = Check.of("flips " + f + ";");
            second.lay(3);
            second.run(7);
            Check.due("one put by is none", second.flip(), -1);
            Check.due("as it was", second.put(0), 3);
        }
        // 137 * 513 + 71 = 70,352; 137 * 999 + 71 = 136,934; 137 * 217 + 71 = 29,800; 137 * 777 + 71 = 106,520; 137 * 7 + 71 = 1,030.
        int[][] draws = {{0, 71}, {999, 934}, {513, 352}, {217, 800}, {777, 520}, {7, 30}};
        for (int[] d : draws) {
            StackWords x = laid("draw " + d[0] + ";", 1);
            x.flip();
            Check.due("seed from " + d[0], x.about(5), d[1]);
        }
        StackWords rest = laid("draw 217; flips 1;", 1);
        Check.due("a rest of 0 is less than 1", rest.flip(), 8);
        Check.due("a rest of 0 is not less than 0", laid("draw 217; flips 0;", 1).flip(), -1);
    }

    /** 'the bit whose number is the SEED / 100 (cut) is turned over', in the top cell alone. */
    private static void everyBit() {
        boolean[] turned = new boolean[10];
        for (int draw = 0; draw < 40; draw++) {
            StackWords x = Check.of("flips 100; draw " + draw + ";");
            x.lay(5);
            x.lay(682);
            int bit = x.flip();
            Check.due("which bit", bit, (draw * 137 + 71) % 1000 / 100);
            Check.due("turned over", x.cell(0), 682 ^ 1 << bit);
            Check.due("beneath as it was", x.cell(1), 5);
            x.undo();
            Check.due("as it was", x.cell(0), 682);
            Check.due("the seed as it was", x.about(5), draw);
            x.redo();
            Check.due("the same again", x.cell(0), 682 ^ 1 << bit);
            turned[bit] = true;
        }
        for (int bit = 0; bit < 10; bit++) {
            Check.due("bit " + bit + " was met", turned[bit], true);
        }
    }

    /** '40 at most are kept, the oldest go'. */
    private static void oldestActs() {
        for (int acts = 38; acts <= 43; acts++) {
            StackWords x = Check.of("word a=;");
            for (int n = 0; n < acts - 1; n++) {
                x.inline(0);
            }
            x.lay(1);
            int kept = Math.min(acts, 40);
            Check.due("kept of " + acts, x.about(6), kept);
            for (int n = 0; n < kept; n++) {
                Check.due("undo " + n, x.undo(), true);
                Check.due("can be undone", x.about(6), kept - n - 1);
                Check.due("can be redone", x.about(7), n + 1);
            }
            Check.due("no more", x.undo(), false);
            Check.due("what the oldest had done stays", x.about(4), (acts - kept) % 2);
            for (int n = 0; n < kept; n++) {
                Check.due("redo " + n, x.redo(), true);
            }
            Check.due("no more", x.redo(), false);
            Check.due("kept as many", x.about(6), kept);
            Check.due("all done again", x.about(2), 1);
            Check.due("all done again", x.about(4), (acts - 1) % 2);
        }
        manyTimesForty();
        Check.leavesAll("undo of none", Made::fresh, x -> x.undo() ? 1 : 0, 0);
        Check.leavesAll("redo of none", Made::full, x -> x.redo() ? 1 : 0, 0);
        Check.leavesAll("redo of none", Made::fresh, x -> x.redo() ? 1 : 0, 0);
    }

    /** However many ACTS there were, the 40 that are kept are the latest, each as it was. */
    private static void manyTimesForty() {
        for (int acts = 41; acts <= 201; acts += 40) {
            StackWords x = new StackWords();
            int[] tops = new int[acts + 1];
            int[] cells = new int[acts + 1];
            for (int n = 1; n <= acts; n++) {
                if (x.about(2) == 5) {
                    x.clear();
                } else {
                    x.lay(n);
                }
                tops[n] = x.cell(0);
                cells[n] = x.about(2);
            }
            for (int n = acts - 1; n >= acts - 40; n--) {
                Check.due("undo", x.undo(), true);
                Check.due("top behind act " + n, x.cell(0), tops[n]);
            }
            Check.due("no more", x.undo(), false);
            for (int n = acts - 39; n <= acts; n++) {
                Check.due("redo", x.redo(), true);
                Check.due("cells behind act " + n, x.about(2), cells[n]);
            }
            Check.due("no more", x.redo(), false);
        }
    }

    /** Each ACT is taken back and done again as one, both stacks, what is INLINED and the SEED. */
    private static void everyActUndone() {
        for (int act = 0; act < 8; act++) {
            StackWords x = Check.of("word a = dup mul; word b = 1 2 3; flips 100; draw 5;");
            x.lay(3);
            x.lay(4);
            x.run(7);
            x.inline(0);
            x.flip();
            String before = machine(x);
            doAct(x, act);
            String after = machine(x);
            Check.due("act " + act + " changes something", after.equals(before), false);
            Check.due("can be undone", x.about(6), 6);
            Check.due("undo", x.undo(), true);
            Check.due("act " + act + " is taken back", machine(x).equals(before), true);
            Check.due("redo", x.redo(), true);
            Check.due("act " + act + " is done again", machine(x).equals(after), true);
            Check.due("once alone", x.redo(), false);
        }
    }

    private static void doAct(StackWords x, int act) {
        switch (act) {
            case 0 -> x.lay(9);
            case 1 -> x.run(0);
            case 2 -> x.run(7);
            case 3 -> x.run(8);
            case 4 -> x.call(1);
            case 5 -> x.clear();
            case 6 -> x.inline(1);
            default -> x.flip();
        }
    }

    private static String machine(StackWords x) {
        StringBuilder b = new StringBuilder();
        for (int what = 2; what <= 5; what++) {
            b.append(x.about(what)).append(' ');
        }
        for (int i = 0; i < 6; i++) {
            b.append(x.cell(i)).append(' ').append(x.put(i)).append(' ');
        }
        return b.toString();
    }

    /** 'REDO does that again which was taken back last (till another ACT)'; what is no ACT, or is refused, leaves it. */
    private static void undoneTillAnotherAct() {
        StackWords x = cells(3);
        x.undo();
        x.undo();
        Check.due("redo", x.redo(), true);
        stack(x, "that which was taken back last", 1, 2);
        x.undo();
        Check.due("two to redo", x.about(7), 2);
        x.image(0);
        x.later(1);
        x.shortest(2, 21);
        x.feed(0, 0, 0, 0, 0);
        x.code();
        x.lay(10000);
        x.run(15);
        x.call(0);
        x.inline(0);
        x.back(1);
        Check.due("still two", x.about(7), 2);
        Check.due("redo", x.redo(), true);
        stack(x, "as it was", 1, 2);
        Check.due("another act", x.flip(), -1);
        Check.due("none to redo", x.about(7), 0);
        Check.due("redo none", x.redo(), false);
        stack(x, "as it was", 1, 2);
        x.clear();
        x.undo();
        Check.due("one to redo", x.about(7), 1);
        x.lay(5);
        x.clear();
        Check.due("none", x.clear(), -1);
        x.undo();
        Check.due("clear of none leaves it", x.about(7), 1);
        StackWords forty = Made.full();
        for (int n = 0; n < 40; n++) {
            forty.undo();
        }
        Check.due("another act", forty.lay(1) > 0, true);
        Check.due("one to undo", forty.about(6), 1);
        Check.due("none to redo", forty.about(7), 0);
    }

    /** Promises 16, 17: '0 if there is none such'. */
    private static void cellsThatAreNot() {
        StackWords x = Made.full();
        Check.due("the 24th", x.cell(23), 101);
        Check.due("the sixth", x.put(5), 1);
        Check.due("no 25th", x.cell(24), 0);
        Check.due("no seventh", x.put(6), 0);
        int[] never = {LEAST, -2, -1, 24, 25, MOST};
        for (int i : never) {
            Check.leavesAll("cell(" + i + ")", Made::full, y -> y.cell(i), 0);
            Check.leavesAll("put(" + i + ")", Made::full, y -> y.put(i), 0);
        }
        StackWords gone = cells(3);
        gone.run(7);
        gone.run(1);
        Check.due("what was there is not", gone.cell(1), 0);
        Check.due("none above", gone.cell(-1), 0);
        gone.run(8);
        Check.due("what was put by is not", gone.put(0), 0);
        Check.due("none above", gone.put(-1), 0);
        StackWords none = new StackWords();
        Check.due("none", none.cell(0), 0);
        Check.due("none", none.put(0), 0);
    }

    /** Promises 46, 47. */
    private static void boxes() {
        int[] never = {LEAST, -1, 3, 4, 31, 32, MOST};
        for (int box : never) {
            Check.leavesAll("image(" + box + ")", Made::rich, x -> x.image(box), -1);
            Check.leavesAll("back(" + box + ")", Made::rich, x -> x.back(box), -1);
            Check.leavesAll("back(" + box + ")", Made::full, x -> x.back(box), -1);
        }
        Check.leavesAll("nothing was kept in 1", Made::rich, x -> x.back(1), -1);
        for (int box = 0; box < 3; box++) {
            int b = box;
            Check.leavesAll("nothing was kept yet", Made::fresh, x -> x.back(b), -1);
            StackWords x = new StackWords();
            Check.due("an image of nothing", x.image(box), 0);
            x.lay(1);
            Check.due("is one all the same", x.back(box), 0);
            Check.due("no cells", x.about(2), 0);
            Check.due("no acts", x.about(6), 0);
        }
        StackWords full = Made.full();
        Check.due("image of 24", full.image(1), 24);
        String machine = machine(full);
        full.clear();
        full.inline(0);
        full.flip();
        full.undo();
        Check.due("back to 24", full.back(1), 24);
        Check.due("all is as it was", machine(full).equals(machine), true);
        Check.due("no acts", full.about(6), 0);
        Check.due("none to redo", full.about(7), 0);
        Check.due("undo none", full.undo(), false);
        Check.due("redo none", full.redo(), false);
        for (int i = 0; i < 24; i++) {
            Check.due("cell " + i, full.cell(i) != 0, true);
        }
        full.run(1);
        full.lay(7);
        Check.due("the box is as it was", full.back(1), 24);
        Check.due("all is as it was", machine(full).equals(machine), true);
        Check.due("box 0", full.back(0), 0);
        Check.due("six put by", full.about(3), 6);
        Check.due("what is seen is in no box", full.about(8), 30);
        Check.due("nor the tape", full.about(10), 1600);
    }

    /** BOXES are empty behind a CODE, and stay at a FAULT. */
    private static void boxesAndCodes() {
        StackWords x = cells(2);
        x.image(0);
        x.image(1);
        x.image(2);
        Check.due("a fault", Check.code(x, "word"), -1);
        Check.due("they stay", x.back(2), 2);
        Check.due("a code", Check.code(x, "word a = 1;"), 1);
        for (int box = 0; box < 3; box++) {
            Check.due("empty", x.back(box), -1);
        }
        x.inline(0);
        x.image(1);
        Check.due("empty", x.back(0), -1);
        Check.due("kept", x.back(1), 0);
        Check.due("inlined", x.about(4), 1);
        x.image(0);
        x.lay(4);
        x.image(0);
        Check.due("over what was kept", x.back(0), 1);
        Check.due("the other as it was", x.back(1), 0);
        x.lay(3);
        x.run(7);
        x.image(2);
        x.back(2);
        Check.due("a code behind what came back", Check.code(x, "word a = 1; draw 4;"), 1);
        int[] due = {1, 1, 0, 0, 0, 4, 0, 0, 0, 0, 0, 0, 0, 0};
        for (int what = 0; what < due.length; what++) {
            Check.due("about(" + what + ") then", x.about(what), due[what]);
        }
    }

    /** Promise 48. */
    private static void abouts() {
        StackWords x = Made.full();
        int[] due = {1, 1, 24, 6, 1, 571, 40, 0, 30, 0, 1600, 0, 0, 7};
        for (int what = 0; what < due.length; what++) {
            Check.due("about(" + what + ")", x.about(what), due[what]);
        }
        int[] never = {LEAST, -1, 14, 15, MOST};
        for (int what : never) {
            Check.leavesAll("about(" + what + ")", Made::rich, y -> y.about(what), -1);
            Check.due("about(" + what + ")", new StackWords().about(what), -1);
        }
        StackWords rich = Made.rich();
        int[] dueOfRich = {3, 9, 4, 1, 2, 592, 9, 2, 3, 20, 22, 3, 2, 60};
        for (int what = 0; what < dueOfRich.length; what++) {
            Check.due("about(" + what + ") of rich", rich.about(what), dueOfRich[what]);
        }
    }

    /** 'An object is used for at most 512 calls': up to the last of them all is as told. */
    private static void longUse() {
        StackWords x = new StackWords();
        for (int n = 1; n <= 511; n++) {
            int turn = n % 7;
            if (turn < 3) {
                x.lay(n);
            } else if (turn < 6) {
                x.run(1);
            } else {
                x.flip();
            }
        }
        Check.due("the 512th call", x.about(6), 40);
    }
}
