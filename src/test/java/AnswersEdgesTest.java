/**
 * Promises 18 to 20, 25 to 29, 33, 37 and 38, at the edges: what a WORD would come to, what things take,
 * TIME, ROOM, FORMS, PICK and ODDS.
 */
public final class AnswersEdgesTest {
    private static final int LEAST = Integer.MIN_VALUE;
    private static final int MOST = Integer.MAX_VALUE;
    private static final int[] NO_WORD = {LEAST, -1, 3, 4, 6, 32, MOST};
    private static final int[] NO_FORM = {LEAST, -1, 3, 4, 32, MOST};

    public static void main(String[] args) {
        comesOfNeeds();
        comesOfCells();
        alikeOfNeeds();
        alikeOfCells();
        differsFirst();
        takesBounds();
        takesWraps();
        takesTruth();
        timesOfItems();
        timesOfWays();
        roomsOfItems();
        roomsInlined();
        bestForms();
        totals();
        picks();
        laws();
        odds();
        nothingSuch();
        Check.done();
    }

    /** Promise 18: '0 if it NEEDS more than 3'. */
    private static void comesOfNeeds() {
        StackWords x = Check.of("word a = 4; word b = neg; word c = sub; word d = drop drop drop 9; word f = drop drop drop drop 9; word g = 8 push drop drop drop pop;");
        int[] due = {4, -3, -1, 9, 0, 8};
        int[] needs = {0, 1, 2, 3, 4, 3};
        for (int word = 0; word < due.length; word++) {
            Check.due("needs of " + word, x.word(word, 1), needs[word]);
            Check.due("comes of " + word, x.comes(word, 1, 2, 3, 0), due[word]);
        }
        StackWords way = Check.of("word a = 0 if drop drop drop drop 1 1 1 1 then;");
        Check.due("needs 4 on a way not gone", way.comes(0, 1, 2, 3, 0), 0);
    }

    /** Promise 18: 'three cells a b c alone (c the top; any ints), the i-th from the top'. */
    private static void comesOfCells() {
        StackWords x = Check.of("word a = ; word b = drop drop drop; word c = 1 1 1 1 1 1 1 1 1 1 1 1; word d = drop;");
        int[][] cells = {{LEAST, MOST, -1}, {0, 0, 0}, {1, 2, 3}};
        for (int[] c : cells) {
            Check.due("a", x.comes(0, c[0], c[1], c[2], 2), c[0]);
            Check.due("b", x.comes(0, c[0], c[1], c[2], 1), c[1]);
            Check.due("c", x.comes(0, c[0], c[1], c[2], 0), c[2]);
            Check.due("no fourth", x.comes(0, c[0], c[1], c[2], 3), 0);
            Check.due("none left", x.comes(1, c[0], c[1], c[2], 0), 0);
            Check.due("the 15th", x.comes(2, c[0], c[1], c[2], 14), c[0]);
            Check.due("the twelfth", x.comes(2, c[0], c[1], c[2], 11), 1);
            Check.due("no 16th", x.comes(2, c[0], c[1], c[2], 15), 0);
            Check.due("the second of two", x.comes(3, c[0], c[1], c[2], 1), c[0]);
            Check.due("no third of two", x.comes(3, c[0], c[1], c[2], 2), 0);
        }
        int[] never = {LEAST, -1, 3, 24, MOST};
        for (int i : never) {
            Check.due("comes " + i, x.comes(0, 7, 7, 7, i), 0);
        }
        // The stacks of the MACHINE have no part in it, be they full.
        StackWords full = Made.full();
        Check.due("three alone", full.comes(0, 1, 2, 3, 0), 5);
        Check.due("three alone", full.comes(0, 1, 2, 3, 1), 1);
        Check.due("three alone", full.comes(0, 1, 2, 3, 2), 0);
        Check.leavesAll("comes", Made::full, y -> y.comes(0, 1, 2, 3, 0), 5);
        Check.leavesAll("comes", Made::rich, y -> y.comes(2, 1, 2, 3, 0), 1);
    }

    /** Promise 19: 'NEED as many cells, 3 at most, LEAVE as many'. */
    private static void alikeOfNeeds() {
        StackWords x = Check.of("word a = drop drop drop; word b = add add drop; word c = drop drop drop drop; word d = add add add drop; word f = drop drop; word g = drop drop drop 0;");
        Check.due("need 3", x.alike(0, 1), 1);
        Check.due("need 4", x.alike(2, 3), 0);
        Check.due("need 4 itself", x.alike(2, 2), 0);
        Check.due("need 3 itself", x.alike(0, 0), 1);
        Check.due("3 and 4", x.alike(0, 2), 0);
        Check.due("3 and 2", x.alike(0, 4), 0);
        Check.due("2 and 3", x.alike(4, 0), 0);
        Check.due("leave 0 and 1", x.alike(0, 5), 0);
        Check.due("leave 1 and 0", x.alike(5, 0), 0);
        // swap swap does nothing, but NEEDS two.
        Check.due("need 0 and 2", Check.of("word a = ; word b = swap swap;").alike(0, 1), 0);
        Check.due("need 0", Check.of("word a = ; word b = 1 drop;").alike(0, 1), 1);
        Check.due("one if all of it is", Check.of("word a = push 1 pop; word b = 1 swap;").alike(0, 1), 1);
    }

    /** Promise 19: 'come to the same cells (those which they LEAVE) for all cells 0 .. 3 that they NEED'. */
    private static void alikeOfCells() {
        for (int n = 0; n <= 5; n++) {
            StackWords x = Check.of("word a = dup " + n + " same; word b = neg neg 0;");
            Check.due("at " + n, x.alike(0, 1), n <= 3 ? 0 : 1);
            Check.due("at " + n, x.alike(1, 0), n <= 3 ? 0 : 1);
            Check.due("at " + n, x.differs(0, 1), n <= 3 ? n : -1);
        }
        // Only the cell beneath, only the top one.
        StackWords y = Check.of("word a = 1 2; word b = 1 3; word c = 4 2; word d = 1 2;");
        Check.due("the top one", y.alike(0, 1), 0);
        Check.due("beneath", y.alike(0, 2), 0);
        Check.due("both", y.alike(0, 3), 1);
        Check.leavesAll("alike", Made::rich, z -> z.alike(0, 1), 0);
        Check.leavesAll("alike", Made::full, z -> z.alike(0, 0), 1);
    }

    /** Promise 20: 'the first cells (told by their digits, the top one last; all of them 0 ahead)'. */
    private static void differsFirst() {
        for (int a = 0; a <= 3; a++) {
            for (int b = 0; b <= 3; b++) {
                for (int c = 0; c <= 3; c++) {
                    StackWords x = Check.of("word z = drop drop drop 0; word a = push push " + a + " same pop " + b + " same mul pop " + c + " same mul;");
                    Check.due("first at " + a + b + c, x.differs(0, 1), a * 100 + b * 10 + c);
                    Check.due("either way", x.differs(1, 0), a * 100 + b * 10 + c);
                }
                StackWords y = Check.of("word z = drop drop 0; word a = push " + a + " same pop " + b + " same mul;");
                Check.due("first at " + a + b, y.differs(0, 1), a * 10 + b);
            }
            // From a on they differ, so at a first.
            StackWords w = Check.of("word z = drop 0; word a = " + a + " less 0 same;");
            Check.due("first at " + a, w.differs(0, 1), a);
        }
        StackWords both = Check.of("word z = drop drop 0; word a = drop 1 same; word b = nip 1 same; word c = add 1 same;");
        Check.due("the lower one is 1", both.differs(0, 1), 10);
        Check.due("the top one is 1", both.differs(0, 2), 1);
        Check.due("of 1 and 10 the first", both.differs(0, 3), 1);
        StackWords none = Check.of("word a = 1; word b = 2; word c = 1; word d = 1 1; word f = drop drop drop drop; word g = add add add neg;");
        Check.due("of no cells", none.differs(0, 1), 0);
        Check.due("there are none", none.differs(0, 2), -1);
        Check.due("itself", none.differs(0, 0), -1);
        Check.due("leave others", none.differs(0, 3), -1);
        Check.due("need 4", none.differs(4, 4), -1);
        Check.due("need others", none.differs(0, 4), -1);
        Check.due("need 4, leave others", none.differs(4, 5), -1);
        Check.due("need 4, leave as many", Check.of("word a = add add add; word b = sub sub sub;").differs(0, 1), -1);
        Check.due("need 3, leave as many", Check.of("word a = add add; word b = sub sub;").differs(0, 1), 10);
        Check.leavesAll("differs", Made::rich, z -> z.differs(0, 1), -1);
    }

    private static void value(String formula, int due) {
        Check.due(formula, Check.of("takes " + formula + ";").takes(2, 13), due);
    }

    /** '0 at least, 99 at most'; '(1 + form, if it is not told)'. */
    private static void takesBounds() {
        int[][] due = {{0, 0}, {1, 1}, {98, 98}, {99, 99}, {100, 99}, {9999, 99}};
        for (int[] d : due) {
            value(String.valueOf(d[0]), d[1]);
        }
        value("0 - 1", 0);
        value("1 - 1", 0);
        value("2 - 1", 1);
        value("0 - 9999", 0);
        StackWords told = Check.of("takes kind * 5 + form * 100;");
        StackWords not = Check.of("word a = dup;");
        for (int form = 0; form < 3; form++) {
            for (int kind = 0; kind < 19; kind++) {
                Check.due("told", told.takes(form, kind), Math.min(99, kind * 5 + form * 100));
                Check.due("not told", not.takes(form, kind), 1 + form);
            }
        }
        int[] noKind = {LEAST, -1, 19, 20, MOST};
        for (int kind : noKind) {
            Check.leavesAll("takes kind " + kind, Made::rich, x -> x.takes(0, kind), -1);
        }
        for (int form : NO_FORM) {
            Check.leavesAll("takes form " + form, Made::rich, x -> x.takes(form, 0), -1);
        }
        Check.leavesAll("takes", Made::rich, x -> x.takes(2, 18), 37);
    }

    /** 'ints, wrapping; / cut, % its rest, both by 0: 0'. */
    private static void takesWraps() {
        String least = "2048 * 1024 * 1024";
        value(least + " < 0", 1);
        value(least + " - 1 > 0", 1);
        value(least + " - 1 + 1 = " + least, 1);
        value("0 - (" + least + ") = " + least, 1);
        value("(" + least + ") / (0 - 1) = " + least, 1);
        value("7 + (" + least + ") % (0 - 1)", 7);
        value("2048 * 1024 * 2048", 0);
        value("3 + 2048 * 1024 * 2048", 3);
        value(least, 0);
        value(least + " - 1", 99);
        value("9 / 0", 0);
        value("9 % 0", 0);
        value("0 / 0", 0);
        value("5 + 9 / (form - 2)", 5);
        value("5 + 9 % (kind - 13)", 5);
        value("7 / 2", 3);
        value("10 + (0 - 7) / 2", 7);
        value("10 + 7 / (0 - 2)", 7);
        value("10 + (0 - 7) / (0 - 2)", 13);
        value("7 % 2", 1);
        value("10 + (0 - 7) % 2", 9);
        value("10 + 7 % (0 - 2)", 11);
        value("6 % 3", 0);
        value("1 / 1", 1);
        value("1 / 2", 0);
    }

    /** 'relations, and, or, not are 1 or 0, of what is not 0'. */
    private static void takesTruth() {
        String[] relations = {"<", ">", "="};
        int[][] pairs = {{1, 2}, {2, 2}, {3, 2}};
        int[][] due = {{1, 0, 0}, {0, 0, 1}, {0, 1, 0}};
        for (int r = 0; r < 3; r++) {
            for (int p = 0; p < 3; p++) {
                value(pairs[p][0] + relations[r] + pairs[p][1], due[r][p]);
                value("(0 - " + pairs[p][1] + ")" + relations[r] + "(0 - " + pairs[p][0] + ")", due[r][p]);
            }
        }
        String[] values = {"0", "1", "2", "(0 - 1)"};
        for (int a = 0; a < 4; a++) {
            for (int b = 0; b < 4; b++) {
                value(values[a] + " and " + values[b], a > 0 && b > 0 ? 1 : 0);
                value(values[a] + " or " + values[b], a > 0 || b > 0 ? 1 : 0);
            }
            value("not " + values[a], a == 0 ? 1 : 0);
            value("not not " + values[a], a == 0 ? 0 : 1);
        }
        // not takes the whole relation; and binds closer than or; both less than a relation.
        value("not 2 = 2", 0);
        value("not 2 = 0", 1);
        value("(not 2) = 0", 1);
        value("not 0 < 0", 1);
        value("1 or 1 and 0", 1);
        value("0 and 1 or 1", 1);
        value("0 and (1 or 1)", 0);
        value("not 1 or 1", 1);
        value("not (1 or 1)", 0);
        value("1 + 1 < 1 + 2", 1);
        value("3 - 2 - 1", 0);
        value("24 / 4 / 2", 3);
        value("24 / (4 / 2)", 12);
        value("2 * 7 % 4 * 3", 6);
    }

    private static int timeOf(String items, String takes, int form) {
        StackWords x = Check.of("word s = 1 drop; word a = " + items + "; takes " + takes + ";");
        return x.time(1, form);
    }

    /** 'TIME .. that of THINGS, N; of a CALL what it TAKES and the TIME of its WORD'. */
    private static void timesOfItems() {
        String[] things = {"dup", "drop", "swap", "over", "rot", "nip", "tuck", "push pop", "push pop", "add", "sub", "mul", "neg", "less", "same", "7", "s", "if then",
            "times 1 next"};
        for (int kind = 0; kind < 19; kind++) {
            for (int form = 0; form < 3; form++) {
                Check.due("kind " + kind, timeOf(things[kind], "(kind = " + kind + ") * (20 + form)", form), 20 + form);
            }
        }
        Check.due("nothing", timeOf("", "9", 0), 0);
        Check.due("all for nothing", timeOf("1 s times 9 next if then", "0", 0), 0);
        Check.due("a call", timeOf("s", "10 + kind", 0), 26 + 25 + 11);
        // else, then, next take nothing.
        Check.due("if else then", timeOf("if else then", "50", 0), 50);
        Check.due("times next", timeOf("times 1 next", "50", 0), 50);
        Check.due("the most", Check.of("word a = times 9 times 9 times 9 times 9 next next next next; takes 99;").time(0, 0), 730620);
    }

    /** 'if: .. the greater of both ways; times N: N times what it TAKES and what is in it'. */
    private static void timesOfWays() {
        String takes = "kind + 1";
        // dup 1, drop 2, neg 13, N 16, if 18, times 19.
        Check.due("the first is greater", timeOf("if neg neg else neg then", takes, 0), 18 + 26);
        Check.due("the second is greater", timeOf("if neg else neg neg then", takes, 0), 18 + 26);
        Check.due("both alike", timeOf("if neg else neg then", takes, 0), 18 + 13);
        Check.due("by time, not by items", timeOf("if dup drop dup drop else neg then", takes, 0), 18 + 13);
        Check.due("without else", timeOf("if neg then", takes, 0), 18 + 13);
        Check.due("nothing in it", timeOf("if then neg", takes, 0), 18 + 13);
        Check.due("once", timeOf("times 1 neg next", takes, 0), 19 + 13);
        Check.due("nine times", timeOf("times 9 neg next", takes, 0), 9 * (19 + 13));
        Check.due("within one another", timeOf("times 2 neg times 3 neg next next neg", takes, 0), 2 * (19 + 13 + 3 * 32) + 13);
        Check.due("a loop on a way", timeOf("if times 3 neg next else neg then", takes, 0), 18 + 96);
        Check.due("a way in a loop", timeOf("times 3 dup if neg else then next", takes, 0), 3 * (19 + 1 + 18 + 13));
        Check.due("a way on a way", timeOf("if dup if neg neg else then else neg then", takes, 0), 18 + (1 + 18 + 26));
        // 2 * (19 + 2 * (19 + 2 * (19 + 2 * (19 + 13)))) = 778, be there others ahead that are closed.
        String deep = "times 2 times 2 times 2 times 2 neg next next next next";
        Check.due("four deep", timeOf(deep, takes, 0), 778);
        Check.due("four deep behind a loop", timeOf("times 1 next " + deep, takes, 0), 19 + 778);
        Check.due("four deep behind an if", timeOf("if then " + deep, takes, 0), 18 + 778);
        Check.due("four deep behind two ways", timeOf("if else then if else then " + deep, takes, 0), 36 + 778);
        Check.due("four ifs behind two ways", timeOf("if else then 1 if 1 if 1 if 1 if neg else then else then else then else then", takes, 0), 18 + 4 * (16 + 18) + 13);
        Check.due("another way behind it", timeOf("if neg else then dup if else neg neg then", takes, 0), 18 + 13 + 1 + 18 + 26);
    }

    private static void room(String items, int direct, int indirect, int token) {
        StackWords x = Check.of("word s = 1 drop; word a = " + items + ";");
        Check.due("room of " + items, x.room(1, 0), direct);
        Check.due("room of " + items, x.room(1, 1), indirect);
        Check.due("room of " + items, x.room(1, 2), token);
    }

    /** 'direct: 1 and for each ITEM 1, but N 2, if, else, times, next 2, then 0; indirect 1 more; token 2 more, and for each N 1 more'. */
    private static void roomsOfItems() {
        room("", 1, 2, 3);
        room("neg", 2, 3, 4);
        room("push pop", 3, 4, 5);
        room("7", 3, 4, 6);
        room("7 7", 5, 6, 9);
        room("s", 2, 3, 4);
        room("if then", 3, 4, 5);
        room("if else then", 5, 6, 7);
        room("times 9 next", 5, 6, 7);
        room("neg ".repeat(20), 21, 22, 23);
        room("1 drop ".repeat(10), 31, 32, 43);
    }

    /** 'for a CALL of an INLINED WORD its ROOM without what is told of no ITEM (1, 2, 3) in place of 1'. */
    private static void roomsInlined() {
        StackWords x = Check.of("word n = ; word s = 1 drop; word t = s s; word a = t s n neg;");
        int[][] due = {{1, 2, 3}, {4, 5, 7}, {3, 4, 5}, {5, 6, 7}};
        int[][] withS = {{1, 2, 3}, {4, 5, 7}, {7, 8, 11}, {7, 8, 10}};
        int[][] withT = {{1, 2, 3}, {4, 5, 7}, {7, 8, 11}, {12, 13, 17}};
        int[][] withN = {{1, 2, 3}, {4, 5, 7}, {7, 8, 11}, {11, 12, 16}};
        rooms(x, due);
        x.inline(1);
        rooms(x, withS);
        x.inline(2);
        rooms(x, withT);
        x.inline(0);
        rooms(x, withN);
        x.inline(3);
        rooms(x, withN);
        x.undo();
        x.undo();
        rooms(x, withT);
        x.inline(1);
        // t alone: two calls of s stand in a in its place.
        rooms(x, new int[][] {{1, 2, 3}, {4, 5, 7}, {3, 4, 5}, {6, 7, 8}});
    }

    private static void rooms(StackWords x, int[][] due) {
        for (int word = 0; word < due.length; word++) {
            for (int form = 0; form < 3; form++) {
                Check.due("room(" + word + ", " + form + ")", x.room(word, form), due[word][form]);
            }
        }
    }

    /** Promise 28: 'of the least TIME, of like ones the least ROOM, then the first'. */
    private static void bestForms() {
        String[] takes = {"form", "2 - form", "(form = 0) + (form = 2)", "(form = 0)", "(form = 2)", "1", "(form = 1)"};
        int[] due = {0, 2, 1, 1, 0, 0, 0};
        for (int t = 0; t < takes.length; t++) {
            Check.due("best by " + takes[t], Check.of("word a = neg; takes " + takes[t] + ";").best(0), due[t]);
        }
        Check.due("not told", Check.of("word a = neg;").best(0), 0);
        Check.due("an empty one", Check.of("word a = ; takes 9 - form;").best(0), 0);
        StackWords x = Check.of("word s = ; word a = s; takes (kind = 16) * (2 - form);");
        Check.due("by a call", x.best(1), 2);
        x.inline(0);
        Check.due("by none", x.best(1), 0);
        Check.due("of the first", x.best(0), 0);
        Check.leavesAll("best", Made::rich, y -> y.best(2), 0);
    }

    /** Promise 29. */
    private static void totals() {
        StackWords x = Check.of("word a = 1; word b = a a; word c = b;");
        int[] due = {3 + 3 + 2, 4 + 4 + 3, 6 + 5 + 4};
        for (int form = 0; form < 3; form++) {
            Check.due("total", x.total(form), due[form]);
        }
        x.inline(0);
        Check.due("without a", x.total(0), 5 + 2);
        Check.due("without a", x.total(2), 9 + 4);
        x.inline(1);
        Check.due("c alone", x.total(0), 5);
        Check.due("c alone", x.total(2), 9);
        x.inline(2);
        Check.due("none", x.total(0), 0);
        Check.due("no words", new StackWords().total(2), 0);
        Check.due("an empty word", Check.of("word a = ;").total(2), 3);
        for (int form : NO_FORM) {
            Check.leavesAll("total(" + form + ")", Made::rich, y -> y.total(form), -1);
            Check.due("total(" + form + ")", new StackWords().total(form), -1);
        }
        Check.leavesAll("total", Made::full, y -> y.total(0), 0);
    }

    /** Promise 33: 'if that is less than now; of like ones the first'. */
    private static void picks() {
        Check.due("no words", new StackWords().pick(0), -1);
        Check.due("none called", Check.of("word a = neg; word b = neg;").pick(0), -1);
        Check.due("one called", Check.of("word a = neg; word b = a;").pick(0), 0);
        Check.due("not in the last one", Check.of("word a = neg; word b = a; word c = neg;").pick(0), -1);
        Check.due("through another", Check.of("word a = neg; word b = a a; word c = b;").pick(0), 0);
        Check.due("of like ones the first", Check.of("word a = neg; word b = a; word c = b;").pick(0), 0);
        Check.due("the better", Check.of("word a = neg; word b = neg; word c = a b b;").pick(0), 1);
        Check.due("a call takes nothing", Check.of("word a = neg; word b = a; takes kind = 12;").pick(0), -1);
        Check.due("a call takes 1", Check.of("word a = neg; word b = a; takes kind = 16;").pick(0), 0);
        Check.due("on the lesser way", Check.of("word a = ; word b = if a else neg neg then;").pick(0), -1);
        Check.due("on like ways", Check.of("word a = ; word b = if a else neg then;").pick(0), -1);
        Check.due("on the greater way", Check.of("word a = ; word b = if a neg else neg then;").pick(0), 0);
        StackWords x = Check.of("word a = neg; word b = neg; word c = a b b;");
        x.inline(1);
        Check.due("the other then", x.pick(0), 0);
        x.inline(0);
        Check.due("none then", x.pick(0), -1);
        StackWords form = Check.of("word a = ; word b = a; takes (form = 1);");
        Check.due("in form 0", form.pick(0), -1);
        Check.due("in form 1", form.pick(1), 0);
        Check.due("in form 2", form.pick(2), -1);
        for (int f : NO_FORM) {
            Check.leavesAll("pick(" + f + ")", Made::rich, y -> y.pick(f), -1);
        }
        Check.leavesAll("pick", Made::rich, y -> y.pick(0), 0);
    }

    /** Promise 37: 'if all KINDS took n (0 .. 99)'. */
    private static void laws() {
        StackWords x = Check.of("word s = neg; word a = s 1 times 9 neg next if neg else then; takes kind;");
        int units = 2 + 1 + 18 + 2;
        int[] good = {0, 1, 50, 98, 99};
        for (int n : good) {
            Check.due("law(" + n + ")", x.law(n), units * n);
        }
        x.inline(0);
        Check.due("inlined", x.law(99), (units - 1) * 99);
        int[] never = {LEAST, -1, 100, 101, MOST};
        for (int n : never) {
            Check.leavesAll("law(" + n + ")", Made::rich, y -> y.law(n), -1);
        }
        Check.leavesAll("law without words", Made::fresh, y -> y.law(1), -1);
        Check.due("an empty word", Check.of("word a = neg; word b = ;").law(99), 0);
        Check.due("of the last word", Check.of("word a = neg; word b = neg neg neg;").law(2), 6);
    }

    private static int divisor(int a, int b) {
        return b == 0 ? a : divisor(b, a % b);
    }

    /** Promise 38: '(n 0 .. 4) .. in lowest terms (0 of 1)'. */
    private static void odds() {
        for (int flips = 0; flips <= 100; flips++) {
            StackWords x = Check.of("flips " + flips + "; draw " + flips + ";");
            int upper = 1;
            int lower = 1;
            for (int n = 0; n <= 4; n++) {
                int common = divisor(upper, lower);
                Check.due("odds of " + flips + ", " + n, x.odds(n, 0), upper / common);
                Check.due("odds of " + flips + ", " + n, x.odds(n, 1), lower / common);
                upper *= 100 - flips;
                lower *= n < 4 ? 100 : 1;
            }
        }
        StackWords always = Check.of("flips 100;");
        Check.due("none in no goes", always.odds(0, 0), 1);
        Check.due("of", always.odds(0, 1), 1);
        Check.due("0", always.odds(1, 0), 0);
        Check.due("of 1", always.odds(1, 1), 1);
        Check.due("0", always.odds(4, 0), 0);
        Check.due("of 1", always.odds(4, 1), 1);
        int[] noGoes = {LEAST, -1, 5, 6, MOST};
        for (int n : noGoes) {
            Check.leavesAll("odds of " + n, Made::rich, x -> x.odds(n, 0), -1);
            Check.leavesAll("odds of " + n, Made::rich, x -> x.odds(n, 1), -1);
        }
        int[] noPart = {LEAST, -1, 2, 3, MOST};
        for (int part : noPart) {
            Check.leavesAll("part " + part, Made::rich, x -> x.odds(2, part), -1);
        }
        // Whatever the SEED is, and though there is no cell.
        StackWords gone = Check.of("flips 50; draw 1;");
        for (int n = 0; n < 5; n++) {
            gone.flip();
            Check.due("as before", gone.odds(2, 1), 4);
        }
        Check.due("no flips told", new StackWords().odds(4, 1), 1);
    }

    private static void nothingSuch() {
        for (int word : NO_WORD) {
            Check.leavesAll("comes of " + word, Made::rich, x -> x.comes(word, 1, 2, 3, 0), 0);
            Check.leavesAll("alike to " + word, Made::rich, x -> x.alike(0, word), -1);
            Check.leavesAll("alike " + word, Made::rich, x -> x.alike(word, 0), -1);
            Check.leavesAll("alike itself " + word, Made::rich, x -> x.alike(word, word), -1);
            Check.leavesAll("differs to " + word, Made::rich, x -> x.differs(0, word), -1);
            Check.leavesAll("differs " + word, Made::rich, x -> x.differs(word, 0), -1);
            Check.leavesAll("time of " + word, Made::rich, x -> x.time(word, 0), -1);
            Check.leavesAll("room of " + word, Made::rich, x -> x.room(word, 0), -1);
            Check.leavesAll("best of " + word, Made::rich, x -> x.best(word), -1);
            Check.leavesAll("tidy of " + word, Made::rich, x -> x.tidy(word), -1);
        }
        for (int form : NO_FORM) {
            Check.leavesAll("time in " + form, Made::rich, x -> x.time(0, form), -1);
            Check.leavesAll("room in " + form, Made::rich, x -> x.room(0, form), -1);
        }
        Check.leavesAll("time", Made::rich, x -> x.time(2, 2), 19 + 35 + 33 + 24);
        Check.leavesAll("room", Made::rich, x -> x.room(2, 0), 1 + 1 + 6);
    }
}
