/** Part 4 of the document and promises 40 to 45, at the edges: what is SEEN, at which TIMES it counts, what FITS, what to ASK. */
public final class SightingsEdgesTest {
    private static final int LEAST = Integer.MIN_VALUE;
    private static final int MOST = Integer.MAX_VALUE;
    /** All THINGS but push and pop. */
    private static final int[] PLAIN = {0, 1, 2, 3, 4, 5, 6, 9, 10, 11, 12, 13, 14};
    /** Those of them that lay as many as they take, or one more. */
    private static final int[] NOT_LESS = {0, 2, 3, 4, 6, 12};

    public static void main(String[] args) {
        cellsSeen();
        topsSeen();
        manySeen();
        untold();
        timeGoesOn();
        knownAt();
        toldAndUntoldAtOnce();
        isOrIsNot();
        whatStoodFirst();
        needsThree();
        aCellAtTheEnd();
        highAndPushed();
        pushOrPopFirst();
        theLastWordAsTold();
        fitAnswers();
        askAnswers();
        askByWhatIsKnown();
        Check.done();
    }

    private static void fits(String told, StackWords x, int k, int... due) {
        Check.due(told + ": fits", x.fits(k), due.length);
        for (int i = 0; i < due.length; i++) {
            Check.due(told + ": fit " + i, x.fit(i, k), due[i]);
        }
        Check.due(told + ": no more", x.fit(due.length, k), -1);
    }

    private static void fitsOf(String text, int... due) {
        fits(text, Check.of(text), 0, due);
    }

    /** Promise 40: 'three cells a b c (0 .. 9 each ..)', 'NONE, doing nothing, if one can't be'. */
    private static void cellsSeen() {
        int[] never = {LEAST, -1, 10, 11, MOST};
        for (int n : never) {
            Check.leavesAll("a " + n, Made::rich, x -> x.seen(n, 0, 0, 0, true), -1);
            Check.leavesAll("b " + n, Made::rich, x -> x.seen(0, n, 0, 0, true), -1);
            Check.leavesAll("c " + n, Made::rich, x -> x.seen(0, 0, n, 0, true), -1);
        }
        Check.leavesAll("no words", Made::fresh, x -> x.seen(0, 0, 0, 0, true), -1);
        Check.leavesAll("no words", () -> Check.of("takes 1; draw 5;"), x -> x.seen(9, 9, 9, 0, false), -1);
        StackWords x = Check.of("word a = neg;");
        Check.due("the least", x.seen(0, 0, 0, 0, true), 0);
        Check.due("the most", x.seen(9, 9, 9, 9, false), 1);
        Check.due("two", x.about(8), 2);
        // rot brings a to the top, drop b, dup c.
        for (int n = 0; n <= 9; n++) {
            for (int others = 0; others <= 9; others += 9) {
                cellIs("a", n, others, others, n, 4);
                cellIs("b", others, n, others, n, 1);
                cellIs("c", others, others, n, n, 0);
            }
        }
        // Each cell is that which was told: a b c are 7 8 9.
        int[] tops = {9, 8, 8, 8, 7, 9, 9, 17, -1, 72, -9, 1, 0};
        for (int i = 0; i < PLAIN.length; i++) {
            StackWords y = Check.of("word a = neg;");
            y.seen(7, 8, 9, tops[i], true);
            boolean found = false;
            for (int j = 0; j < y.fits(0); j++) {
                found |= y.fit(j, 0) == PLAIN[i];
            }
            Check.due("thing " + PLAIN[i], found, true);
        }
    }

    private static void cellIs(String which, int a, int b, int c, int top, int thing) {
        for (int other = 0; other <= 9; other++) {
            StackWords x = Check.of("word a = neg;");
            x.seen(a, b, c, other, true);
            boolean found = false;
            for (int i = 0; i < x.fits(0); i++) {
                found |= x.fit(i, 0) == thing;
            }
            Check.due(which + " of " + a + b + c + " is " + other, found, other == top);
        }
    }

    /** 'it came to a number at the top': any int. */
    private static void topsSeen() {
        String text = "word a = mul 9999 mul 9999 mul 9999 mul;";
        // 9 * 9 * 9999 ^ 3, and 9 * 9999 ^ 3, wrapped around.
        int most = 81 * 9999 * 9999 * 9999;
        StackWords x = Check.of(text);
        Check.due("seen", x.seen(0, 9, 9, most, true), 0);
        fits("wrapped", x, 0, 11);
        int[] others = {LEAST, MOST, -1};
        for (int top : others) {
            StackWords y = Check.of(text);
            Check.due("seen " + top, y.seen(1, 2, 3, top, false), 0);
            Check.due("not " + top, y.fits(0), 13);
            Check.due("seen " + top, y.seen(1, 2, 3, top, true), 1);
            Check.due("never " + top, y.fits(0), 0);
        }
        StackWords least = Check.of("word a = neg 1024 mul 1024 mul 1024 mul;");
        // 2 * 1024 ^ 3 wraps to the least int.
        least.seen(5, 1, 2, LEAST, true);
        fits("the least int", least, 0, 0, 5, 6, 11, 12);
    }

    /** 'SEEN, 30 at most'. */
    private static void manySeen() {
        StackWords x = Check.of("word a = add;");
        for (int n = 0; n < 29; n++) {
            Check.due("number", x.seen(1, 2, 3, 50, false), n);
        }
        Check.due("the 30th", x.seen(0, 2, 3, 5, true), 29);
        Check.due("the 31st", x.seen(0, 2, 3, 6, true), -1);
        Check.due("30", x.about(8), 30);
        fits("the 30th counts", x, 0, 9);
        Check.due("untell the 30th", x.untell(29), true);
        Check.due("it does not count then", x.fits(0), 13);
        Check.due("still 30", x.about(8), 30);
        Check.due("no room for another", x.seen(0, 2, 3, 6, true), -1);
        Check.leavesAll("the 31st", Made::full, y -> y.seen(1, 1, 1, 1, true), -1);
        Check.due("another code", Check.code(x, "word a = add;"), 1);
        Check.due("nothing is seen", x.about(8), 0);
        Check.due("from 0 again", x.seen(0, 2, 3, 6, true), 0);
    }

    /** Promise 41. */
    private static void untold() {
        int[] never = {LEAST, -1, 3, 4, 30, MOST};
        for (int seen : never) {
            Check.leavesAll("untell(" + seen + ")", Made::rich, x -> x.untell(seen) ? 1 : 0, 0);
        }
        Check.leavesAll("it is so already", Made::rich, x -> x.untell(0) ? 1 : 0, 0);
        Check.leavesAll("none", Made::fresh, x -> x.untell(0) ? 1 : 0, 0);
        Check.leavesAll("no 31st", Made::full, x -> x.untell(30) ? 1 : 0, 0);
        StackWords full = Made.full();
        for (int seen = 29; seen >= 0; seen--) {
            Check.due("untell", full.untell(seen), true);
            Check.due("already", full.untell(seen), false);
        }
        // Untold again at a later TIME it stays untold when it was.
        StackWords x = Check.of("word a = add;");
        x.seen(0, 2, 3, 5, true);
        x.later(5);
        x.untell(0);
        x.later(5);
        Check.due("already", x.untell(0), false);
        Check.due("at 4", x.fits(4), 1);
        Check.due("at 5", x.fits(5), 13);
        Check.due("at 10", x.fits(10), 13);
    }

    /** Promise 42: '(0 .. 1000)', 'if it would be above 100,000'. */
    private static void timeGoesOn() {
        int[] never = {LEAST, -1000, -1, 1001, 1002, 100000, MOST};
        for (int by : never) {
            Check.leavesAll("later(" + by + ")", Made::rich, x -> x.later(by), -1);
        }
        for (int by = 9; by <= 12; by++) {
            StackWords x = Made.late();
            Check.due("99,990 and " + by, x.later(by), by <= 10 ? 99990 + by : -1);
            Check.due("the time", x.about(9), by <= 10 ? 99990 + by : 99990);
        }
        Check.leavesAll("above", Made::late, x -> x.later(11), -1);
        Check.leavesAll("above", Made::late, x -> x.later(1000), -1);
        StackWords x = Made.late();
        Check.due("to the end", x.later(10), 100000);
        Check.due("by nothing", x.later(0), 100000);
        Check.due("by 1", x.later(1), -1);
        StackWords y = new StackWords();
        Check.due("by nothing", y.later(0), 0);
        Check.due("by 1", y.later(1), 1);
        Check.due("by 999", y.later(999), 1000);
        Check.due("by 1,000", y.later(1000), 2000);
        Check.due("it is no act", y.about(6), 0);
        y.code();
        Check.due("a code leaves it", y.about(9), 2000);
    }

    /** 'As known at k that counts that was TOLD at k or before, not UNTOLD at k or before.' */
    private static void knownAt() {
        StackWords x = Check.of("word a = add;");
        x.later(100);
        x.seen(0, 2, 3, 5, true);
        x.later(50);
        x.untell(0);
        x.later(1000);
        int[][] due = {{LEAST, 13}, {-1, 13}, {0, 13}, {98, 13}, {99, 13}, {100, 1}, {101, 1}, {148, 1}, {149, 1}, {150, 13}, {151, 13}, {1150, 13}, {2000, 13}, {MOST, 13}};
        for (int[] d : due) {
            Check.due("known at " + d[0], x.fits(d[0]), d[1]);
            Check.due("the first at " + d[0], x.fit(0, d[0]), d[1] == 1 ? 9 : 0);
            Check.due("the second at " + d[0], x.fit(1, d[0]), d[1] == 1 ? -1 : 1);
        }
        StackWords late = Made.late();
        // 1 2 3 came to 5: add; later it did not come to 6.
        fits("at 0", late, 0, 9);
        fits("ahead", late, -1, PLAIN);
        fits("at the end", late, MOST, 9);
    }

    /** 'UNTOLD at a later one or the same'. */
    private static void toldAndUntoldAtOnce() {
        StackWords x = Check.of("word a = add;");
        x.later(7);
        x.seen(0, 2, 3, 5, true);
        Check.due("it counts", x.fits(7), 1);
        Check.due("untold at once", x.untell(0), true);
        int[] times = {LEAST, 6, 7, 8, MOST};
        for (int k : times) {
            Check.due("it never counts, at " + k, x.fits(k), 13);
        }
        for (int time = 0; time <= 3; time++) {
            StackWords y = Check.of("word a = add;");
            y.seen(0, 2, 3, 5, true);
            y.later(time);
            Check.due("untold at " + time, y.untell(0), true);
            Check.due("already, at " + time, y.untell(0), false);
            Check.due("just ahead of " + time, y.fits(time - 1), time == 0 ? 13 : 1);
            Check.due("at " + time, y.fits(time), 13);
        }
    }

    /** 'it came to a number at the top, or did not'. */
    private static void isOrIsNot() {
        StackWords is = Check.of("word a = add;");
        is.seen(4, 2, 3, 3, true);
        fits("is 3", is, 0, 0, 5, 6);
        StackWords not = Check.of("word a = add;");
        not.seen(4, 2, 3, 3, false);
        fits("is not 3", not, 0, 1, 2, 3, 4, 9, 10, 11, 12, 13, 14);
        not.seen(4, 2, 3, 3, true);
        fits("both", not, 0);
        is.seen(1, 1, 1, 7, false);
        fits("never 7", is, 0, 0, 5, 6);
        is.seen(1, 1, 1, 7, true);
        fits("never 7", is, 0);
    }

    /** '(what stood there is no matter, if it was a THING, N or a NAME; else none FITS)'. */
    private static void whatStoodFirst() {
        String[] firsts = {"dup", "same", "swap", "7", "0", "z", "zz"};
        for (String first : firsts) {
            fitsOf("word z = drop; word zz = dup dup dup; word a = " + first + " neg;", PLAIN);
        }
        String[] others = {"if neg then neg", "if else then neg", "times 2 neg next neg", "times 1 next", ""};
        for (String items : others) {
            fitsOf("word z = drop; word a = " + items + ";");
            StackWords x = Check.of("word a = " + items + ";");
            Check.due("seen all the same", x.seen(1, 2, 3, 4, true), 0);
            Check.due("none fits", x.fits(0), 0);
            Check.due("nothing to ask", x.ask(0, 0, 0, 0), -1);
            Check.due("nothing to ask", x.ask(0, 0, 1, 0), -1);
        }
        fitsOf("word a = dup;", PLAIN);
        fitsOf("word a = 5 if neg else then;", PLAIN);
    }

    /** 'NEEDS 3 at most'. */
    private static void needsThree() {
        fitsOf("word a = neg drop drop 1;", PLAIN);
        fitsOf("word a = neg drop drop drop 1;", NOT_LESS);
        // Three more than dup, over, tuck lay: those alone.
        fitsOf("word a = neg drop drop drop drop 1;", 0, 3, 6);
        fitsOf("word a = neg drop drop drop drop drop 1;");
        // rot NEEDS 3 by itself; behind it all three are there.
        fitsOf("word a = neg rot drop drop 1;", NOT_LESS);
        fitsOf("word z = rot; word a = neg z;", NOT_LESS);
        fitsOf("word a = 1 dup drop drop drop 1 1 rot;", NOT_LESS);
        fitsOf("word a = dup 0 if drop drop drop 1 1 1 then;", NOT_LESS);
    }

    /** 'there is a cell at its end (of three there were at first)'. */
    private static void aCellAtTheEnd() {
        fitsOf("word a = neg drop;", PLAIN);
        fitsOf("word a = neg drop drop;", NOT_LESS);
        fitsOf("word a = neg drop drop drop;", 0, 3, 6);
        fitsOf("word a = 1 drop drop drop drop;");
        fitsOf("word a = neg drop drop dup drop;", NOT_LESS);
    }

    /** 'has no FAULT 6 or 7': HIGH 12, PUSHED. */
    private static void highAndPushed() {
        fitsOf("word a = neg 1 1 1 1 1 1 1 1 1 1 1;", PLAIN);
        fitsOf("word a = neg 1 1 1 1 1 1 1 1 1 1 1 1;", 1, 2, 4, 5, 9, 10, 11, 12, 13, 14);
        fitsOf("word a = drop 1 1 1 1 1 1 1 1 1 1 1 1 1;", 1, 5, 9, 10, 11, 13, 14);
        fitsOf("word z = 1 1 1 1 1 1 1 1 1 1 1 1 drop drop drop drop drop drop; word a = neg z;", 1, 2, 4, 5, 9, 10, 11, 12, 13, 14);
        // Six are put by behind it, and come back: push would be a seventh, and stay.
        fitsOf("word a = neg 1 1 1 1 1 1 push push push push push push pop pop pop pop pop pop;", PLAIN);
        fitsOf("word a = neg times 9 push pop next;", PLAIN);
        fitsOf("word a = neg dup if 1 else 2 then;", PLAIN);
    }

    /** push needs its pop, and pop has nothing there. */
    private static void pushOrPopFirst() {
        fitsOf("word a = push pop;", 7);
        fitsOf("word a = push neg neg pop;", 7);
        fitsOf("word a = push times 3 pop 1 add push next pop;", 7);
        fitsOf("word a = push 1 1 1 1 1 push push push push push pop pop pop pop pop pop;", 7);
        fitsOf("word a = push 1 if pop else pop then;", 7);
        StackWords x = Check.of("word a = push neg pop add;");
        // a b c: a (c - b).
        x.seen(1, 2, 5, 3, true);
        fits("push", x, 0, 7);
        x.seen(1, 2, 5, 4, true);
        fits("not even push", x, 0);
    }

    /** 'of the last WORD as it was told': INLINED or not, whatever is on the stacks. */
    private static void theLastWordAsTold() {
        StackWords x = Check.of("word z = neg; word y = 1 add; word a = 7 z y;");
        // What comes of the first, negated, and 1.
        x.seen(4, 2, 3, -1, true);
        fits("top 2", x, 0, 1, 2, 3);
        x.inline(0);
        x.inline(1);
        x.inline(2);
        x.lay(5);
        x.run(7);
        fits("as it was", x, 0, 1, 2, 3);
        for (int n = 0; n < 24; n++) {
            x.lay(9);
        }
        fits("as it was", x, 0, 1, 2, 3);
        Check.leavesAll("fits", Made::rich, y -> y.fits(20), Made.rich().fits(20));
        Check.leavesAll("fit", Made::full, y -> y.fit(0, 0), 0);
    }

    /** Promises 43, 44. */
    private static void fitAnswers() {
        StackWords x = Check.of("word a = add;");
        for (int i = 0; i < PLAIN.length; i++) {
            Check.due("fit " + i, x.fit(i, 0), PLAIN[i]);
        }
        int[] never = {LEAST, -1, 13, 14, 15, MOST};
        for (int i : never) {
            Check.due("no fit " + i, x.fit(i, 0), -1);
            Check.leavesAll("no fit " + i, Made::rich, y -> y.fit(i, 20), -1);
        }
        StackWords none = new StackWords();
        Check.due("no words", none.fits(0), 0);
        Check.due("no words", none.fit(0, 0), -1);
        x.seen(0, 2, 3, 5, true);
        Check.due("one", x.fit(0, 0), 9);
        Check.due("no second", x.fit(1, 0), -1);
        Check.due("of another time", x.fit(1, -1), 1);
    }

    private static void asks(StackWords x, int a, int b, int k, int c, int left) {
        Check.due("ask(" + a + ", " + b + ", 0, " + k + ")", x.ask(a, b, 0, k), c);
        Check.due("ask(" + a + ", " + b + ", 1, " + k + ")", x.ask(a, b, 1, k), left);
    }

    /** Promise 45. */
    private static void askAnswers() {
        int[] noCell = {LEAST, -1, 10, 11, MOST};
        for (int n : noCell) {
            Check.leavesAll("a " + n, Made::rich, x -> x.ask(n, 0, 0, 20), -1);
            Check.leavesAll("b " + n, Made::rich, x -> x.ask(0, n, 1, 20), -1);
        }
        int[] noWhat = {LEAST, -1, 2, 3, MOST};
        for (int what : noWhat) {
            Check.leavesAll("what " + what, Made::rich, x -> x.ask(0, 0, what, 20), -1);
        }
        Check.leavesAll("no words", Made::fresh, x -> x.ask(0, 0, 0, 0), -1);
        StackWords same = Check.of("word a = neg 9 same;");
        // Only with a 9 at the top four of thirteen come to 1: dup, nip, tuck and add.
        asks(same, 0, 0, 0, 9, 9);
        // Here drop, swap, over are 1 whatever c is; with c 9 there are six, dup, nip, tuck beside them.
        asks(same, 0, 9, 0, 9, 7);
        asks(same, 9, 0, 0, 9, 8);
        // With b 9 eight would be left, but b is told.
        asks(same, 0, 8, 0, 9, 10);
        StackWords less = Check.of("word a = neg 8 less;");
        // Eight are left whatever c is: the least.
        asks(less, 0, 8, 0, 0, 8);
        asks(less, 8, 8, 0, 0, 7);
        asks(less, 9, 9, 0, 0, 7);
        StackWords nothing = Check.of("word a = neg 0 mul;");
        asks(nothing, 0, 0, 0, 0, 13);
        asks(nothing, 9, 9, 0, 0, 13);
        StackWords one = Check.of("word a = push pop;");
        asks(one, 9, 9, 0, 0, 1);
        asks(one, 0, 0, 0, 0, 1);
    }

    /** ASK goes by those which FIT as known at k. */
    private static void askByWhatIsKnown() {
        StackWords x = Check.of("word a = add;");
        x.later(10);
        x.seen(0, 2, 3, 5, true);
        x.later(10);
        x.untell(0);
        x.seen(0, 2, 3, 6, true);
        x.later(10);
        x.seen(0, 2, 3, 6, false);
        int before = x.ask(3, 5, 1, 9);
        Check.due("all of them", before, 3);
        Check.due("all of them", x.ask(3, 5, 0, 9), 2);
        asks(x, 3, 5, 10, 0, 1);
        asks(x, 3, 5, 19, 0, 1);
        asks(x, 3, 5, 20, 0, 1);
        Check.due("mul then", x.fit(0, 20), 11);
        Check.due("none then", x.ask(3, 5, 0, 30), -1);
        Check.due("none then", x.ask(3, 5, 1, 30), -1);
        Check.due("none then", x.ask(3, 5, 0, MOST), -1);
        Check.due("all of them", x.ask(3, 5, 1, LEAST), 3);
    }
}
