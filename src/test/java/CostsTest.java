/** Promises 25 to 29, 33, 37, 38: what things take, TIME, ROOM, FORMS, PICK, ODDS. */
public final class CostsTest {
    public static void main(String[] args) {
        takes();
        formulas();
        times();
        rooms();
        bests();
        picks();
        laws();
        odds();
        Check.done();
    }

    private static void takes() {
        StackWords x = new StackWords();
        for (int form = 0; form < 3; form++) {
            for (int kind = 0; kind < 19; kind++) {
                Check.due("plain", x.takes(form, kind), 1 + form);
            }
        }
        int[][] wrong = {{3, 0}, {-1, 0}, {0, 19}, {0, -1}};
        for (int[] w : wrong) {
            Check.due("can't be", x.takes(w[0], w[1]), -1);
        }
        StackWords y = Check.of("takes kind * 10 - form;");
        Check.due("0 at least", y.takes(1, 0), 0);
        Check.due("ordinary", y.takes(2, 7), 68);
        Check.due("99 at most", y.takes(0, 10), 99);
        Check.due("99 at most", y.takes(1, 10), 99);
        Check.due("99", y.takes(0, 18), 99);
    }

    private static void value(String formula, int due) {
        Check.due(formula, Check.of("takes " + formula + ";").takes(2, 13), due);
    }

    private static void formulas() {
        value("form", 2);
        value("kind", 13);
        value("2 + 3 * 4", 14);
        value("(2 + 3) * 4", 20);
        value("20 - 3 - 4", 13);
        value("100 / 7 / 2", 7);
        value("100 % 7 * 3", 6);
        value("50 + (0 - 7) / 2", 47);
        value("50 + (0 - 7) % 4", 47);
        value("7 + 5 / 0", 7);
        value("7 + 5 % 0", 7);
        value("3 < 4", 1);
        value("4 < 4", 0);
        value("4 > 4", 0);
        value("5 > 4", 1);
        value("4 = 4", 1);
        value("1 + 1 = 2", 1);
        value("not 0", 1);
        value("not 5", 0);
        value("not 3 > 4", 1);
        value("not not 7", 1);
        value("7 and 8", 1);
        value("7 and 0", 0);
        value("0 or 9", 1);
        value("0 or 0", 0);
        value("1 or 0 and 0", 1);
        value("(1 or 0) and 0", 0);
        value("not 0 and 0", 0);
        value("0 and 0 or not 0", 1);
        value("(kind > 12 and form = 2) * 33", 33);
        value("50 + 9999 * 9999 * 9999 % 10", 50 + 9999 * 9999 * 9999 % 10);
        value("form or 0", 1);
        value("9999", 99);
        value("1 < 2 and 2 < 3", 1);
        value("not (not (1))", 1);
        value("1" + "+1".repeat(29), 30);
        value("5 + " + "(0 + ".repeat(7) + "kind" + ")".repeat(7) + " * 2", 31);
        String nots = "not not not not not not not ";
        value(nots + "7" + (" and " + nots + "0").repeat(29), 0);
        value(nots + "7" + (" or " + nots + "0").repeat(29), 1);
        value("0 or 1 and 0 < 0 + 1 * (0 or 1 and 0 < 0 + 1 * (0 or 1 and 0 < 0 + 1 * (0 or 1 and 0 < 0 + 1 * (0 or 1 and 0 < 0 + 1 * kind))))", 1);
        StackWords x = new StackWords();
        for (int n = 0; n < 40; n++) {
            Check.due("again and again", Check.code(x, "takes 1 + 2 * " + n + ";"), 0);
            Check.due("again and again", x.takes(0, 0), 1 + 2 * n);
            Check.due("again and again", x.about(11), 3);
        }
        Check.due("not told any more", Check.code(x, "draw 1;"), 0);
        Check.due("plain again", x.takes(2, 0), 3);
        Check.due("no units", x.about(11), 0);
    }

    private static final String TEXT = "word a = 3 add neg;"
        + "word b = if a a else neg then;"
        + "word c = times 4 a times 2 next next b;"
        + "word d = c a 7;"
        + "takes kind + 1 + form;";

    private static void times() {
        StackWords x = Check.of(TEXT);
        // N 16, add 10, neg 13; a call 17, if 18, times 19.
        Check.due("a", x.time(0, 0), 39);
        Check.due("b", x.time(1, 0), 18 + 2 * 56);
        int c = 4 * (19 + 56 + 2 * 19) + 17 + 130;
        Check.due("c", x.time(2, 0), c);
        Check.due("d", x.time(3, 0), 17 + c + 56 + 16);
        Check.due("a in form 2", x.time(0, 2), 45);
        x.inline(0);
        Check.due("a is as it was", x.time(0, 0), 39);
        Check.due("b with a inlined", x.time(1, 0), 18 + 78);
        x.inline(1);
        Check.due("c with both", x.time(2, 0), 4 * (19 + 39 + 38) + 96);
        Check.due("no word", x.time(4, 0), -1);
        Check.due("no word", x.time(-1, 0), -1);
        Check.due("no form", x.time(0, 3), -1);
        Check.due("no form", x.time(0, -1), -1);
        StackWords y = Check.of("word a = if dup drop else 1 drop drop 1 then; takes (kind = 0) * 50 + 1;");
        Check.due("the greater by time", y.time(0, 0), 1 + 52);
        Check.due("nothing", Check.of("word e = ;").time(0, 0), 0);
    }

    private static void rooms() {
        StackWords x = Check.of(TEXT);
        int[][] due = {{5, 6, 8}, {8, 9, 10}, {11, 12, 13}, {5, 6, 8}};
        for (int word = 0; word < 4; word++) {
            for (int form = 0; form < 3; form++) {
                Check.due("room " + word + " " + form, x.room(word, form), due[word][form]);
            }
        }
        Check.due("total", x.total(0), 29);
        Check.due("total", x.total(2), 39);
        x.inline(0);
        // In b two calls of 1 become 4 each (5 in form 2).
        Check.due("a as it was", x.room(0, 0), 5);
        Check.due("b", x.room(1, 0), 14);
        Check.due("b", x.room(1, 2), 18);
        Check.due("c", x.room(2, 0), 14);
        Check.due("without a", x.total(0), 14 + 14 + 8);
        x.inline(1);
        Check.due("c with b, which has a", x.room(2, 0), 1 + 2 + 4 + 2 + 2 + 2 + 13);
        Check.due("c in form 2", x.room(2, 2), 3 + 2 + 5 + 2 + 2 + 2 + 15);
        Check.due("no word", x.room(4, 0), -1);
        Check.due("no form", x.room(0, 3), -1);
        Check.due("no form", x.room(0, -1), -1);
        Check.due("no form", x.total(3), -1);
        Check.due("no form", x.total(-1), -1);
    }

    private static void bests() {
        Check.due("direct", Check.of("word a = dup;").best(0), 0);
        Check.due("token", Check.of("word a = dup; takes 9 - form;").best(0), 2);
        Check.due("indirect", Check.of("word a = dup; takes 9 - (form = 1);").best(0), 1);
        Check.due("of like ones the room", Check.of("word a = dup; takes 9;").best(0), 0);
        Check.due("of like ones the room", Check.of("word a = dup; takes 9 - (form > 0);").best(0), 1);
        Check.due("nothing", Check.of("word a = ; takes 9 - form;").best(0), 0);
        StackWords x = Check.of("word a = dup; word b = a; takes (kind = 16) * (form = 0) * 5 + form + 1;");
        Check.due("calls are dear", x.best(1), 1);
        x.inline(0);
        Check.due("inlined", x.best(1), 0);
        Check.due("no word", x.best(2), -1);
        Check.due("no word", x.best(-1), -1);
    }

    private static void picks() {
        StackWords x = Check.of("word a = dup drop; word b = a a; word c = b times 3 a next;");
        // a is called twice in b and thrice in c.
        Check.due("a", x.pick(0), 0);
        x.inline(0);
        Check.due("b", x.pick(0), 1);
        x.inline(1);
        Check.due("none", x.pick(0), -1);
        Check.due("no form", x.pick(3), -1);
        Check.due("no form", x.pick(-1), -1);
        Check.due("the first", Check.of("word a = ; word b = ; word c = b a;").pick(0), 0);
        Check.due("the best", Check.of("word a = ; word b = ; word c = b a b;").pick(0), 1);
        Check.due("calls for nothing", Check.of("word a = ; word b = a; takes kind - 16;").pick(0), -1);
        Check.due("by form", Check.of("word a = ; word b = a; takes form;").pick(0), -1);
        Check.due("by form", Check.of("word a = ; word b = a; takes form;").pick(2), 0);
        Check.due("on the other way", Check.of("word a = ; word b = if dup drop dup drop else a then;").pick(0), -1);
        Check.due("no words", new StackWords().pick(0), -1);
    }

    private static void laws() {
        StackWords x = Check.of(TEXT);
        // a 3; b 1 + 2 * 4; c 4 * (1 + 4 + 2) + 1 + 9; d 1 + 38 + 4 + 1.
        Check.due("law", x.law(1), 44);
        Check.due("law", x.law(99), 44 * 99);
        Check.due("law", x.law(0), 0);
        x.inline(0);
        Check.due("inlined", x.law(2), 2 * (1 + (4 * (1 + 3 + 2) + 1 + 7) + 3 + 1));
        Check.due("law(100)", x.law(100), -1);
        Check.due("law(-1)", x.law(-1), -1);
        Check.due("no words", new StackWords().law(1), -1);
    }

    private static void odds() {
        int[] flips = {0, 30, 100, 99, 50, 1};
        int[][] due = {{1, 1, 1, 1, 1}, {1, 7, 49, 343, 2401}, {1, 0, 0, 0, 0}, {1, 1, 1, 1, 1}, {1, 1, 1, 1, 1}, {1, 99, 9801, 970299, 96059601}};
        int[][] lower = {{1, 1, 1, 1, 1}, {1, 10, 100, 1000, 10000}, {1, 1, 1, 1, 1}, {1, 100, 10000, 1000000, 100000000}, {1, 2, 4, 8, 16},
            {1, 100, 10000, 1000000, 100000000}};
        for (int i = 0; i < flips.length; i++) {
            StackWords x = Check.of("flips " + flips[i] + ";");
            for (int n = 0; n <= 4; n++) {
                Check.due("odds " + flips[i] + " upper " + n, x.odds(n, 0), due[i][n]);
                Check.due("odds " + flips[i] + " lower " + n, x.odds(n, 1), lower[i][n]);
            }
        }
        StackWords x = new StackWords();
        int[][] wrong = {{5, 0}, {-1, 0}, {1, 2}, {1, -1}};
        for (int[] w : wrong) {
            Check.due("can't be", x.odds(w[0], w[1]), -1);
        }
    }
}
