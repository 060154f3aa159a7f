/** Promises 6, 7, 30 to 32, 34 to 36: what is told of WORDS. */
public final class WordsTest {
    private static final String TEXT = "word sq = dup mul;"
        + "word rep = push times 3 pop sq push next pop;"
        + "word way = if dup sq else over push 5 pop less then;"
        + "word mov = rot rot nip;"
        + "word all = sq way mov rep;"
        + "word nil = ;";

    public static void main(String[] args) {
        words();
        items();
        heights();
        graph();
        counts();
        Check.done();
    }

    private static void row(StackWords x, int word, int... due) {
        for (int what = 0; what < due.length; what++) {
            Check.due("word(" + word + ", " + what + ")", x.word(word, what), due[what]);
        }
    }

    private static void words() {
        StackWords x = Check.of(TEXT);
        row(x, 0, 2, 1, 1, 1, 0, 2, 0);
        row(x, 1, 7, 1, 1, 1, 1, 18, 0);
        // if takes one; dup sq: 1 above that; over (needs two below the if's), push, 5, pop, less: one above, too.
        row(x, 2, 10, 3, 3, 1, 1, 6, 0);
        row(x, 3, 3, 3, 2, 0, 0, 3, 0);
        row(x, 5, 0, 0, 0, 0, 0, 0, 0);
        x.inline(3);
        Check.due("inlined", x.word(3, 6), 1);
        Check.due("no what", x.word(3, 7), -1);
        Check.due("no what", x.word(3, -1), -1);
        Check.due("no word", x.word(6, 0), -1);
        Check.due("no word", x.word(-1, 0), -1);
        row(Check.of("word a = 1 2 3 drop drop drop drop;"), 0, 7, 1, 0, 3, 0, 7, 0);
        row(Check.of("word a = drop dup; word b = 1 a;"), 1, 2, 1, 2, 1, 0, 4, 0);
        row(Check.of("word a = push push pop pop push pop;"), 0, 6, 2, 2, 0, 2, 6, 0);
    }

    private static void items() {
        StackWords x = Check.of(TEXT);
        int[] sorts = {0, 6, 0, 2, 0, 7, 0};
        int[] values = {7, 3, 8, 0, 7, 0, 8};
        for (int i = 0; i < sorts.length; i++) {
            Check.due("sort " + i, x.item(1, i, 0), sorts[i]);
            Check.due("value " + i, x.item(1, i, 1), values[i]);
        }
        int[] sortsOfWay = {3, 0, 2, 4, 0, 0, 1, 0, 0, 5};
        int[] valuesOfWay = {0, 0, 0, 0, 3, 7, 5, 8, 13, 0};
        for (int i = 0; i < sortsOfWay.length; i++) {
            Check.due("sort " + i, x.item(2, i, 0), sortsOfWay[i]);
            Check.due("value " + i, x.item(2, i, 1), valuesOfWay[i]);
        }
        Check.due("no item", x.item(1, 7, 0), -1);
        Check.due("no item", x.item(1, -1, 0), -1);
        Check.due("no item", x.item(5, 0, 0), -1);
        Check.due("no word", x.item(6, 0, 0), -1);
        Check.due("no what", x.item(1, 0, 2), -1);
        Check.due("no what", x.item(1, 0, -1), -1);
        Check.due("a great number", Check.of("word a = 9999 0009;").item(0, 0, 1), 9999);
        Check.due("noughts ahead", Check.of("word a = 9999 0009;").item(0, 1, 1), 9);
    }

    private static void heights() {
        StackWords x = Check.of(TEXT);
        int[] due = {-1, 0, 0, -1, 0, -1, 0, 1, 0, 0};
        for (int i = 0; i < due.length; i++) {
            Check.due("height " + i, x.height(2, i), due[i]);
        }
        int[] ofRep = {-1, -1, 0, 0, -1, -1, 0};
        for (int i = 0; i < ofRep.length; i++) {
            Check.due("height of rep " + i, x.height(1, i), ofRep[i]);
        }
        Check.due("none", x.height(2, 10), -100);
        Check.due("none", x.height(2, -1), -100);
        Check.due("none", x.height(5, 0), -100);
        Check.due("none", x.height(-1, 0), -100);
    }

    private static void graph() {
        StackWords x = Check.of(TEXT);
        int[] calls = {0, 1, 1, 0, 15, 0};
        int[] callers = {22, 16, 16, 16, 0, 0};
        int[] nested = {1, 2, 2, 1, 3, 1};
        for (int word = 0; word < 6; word++) {
            Check.due("calls " + word, x.calls(word), calls[word]);
            Check.due("callers " + word, x.callers(word), callers[word]);
            Check.due("nested " + word, x.nested(word), nested[word]);
        }
        x.inline(0);
        x.inline(1);
        Check.due("nested, inlined", x.nested(4), 3);
        int[] none = {-1, 6, 7, Integer.MIN_VALUE};
        for (int word : none) {
            Check.due("calls none", x.calls(word), -1);
            Check.due("callers none", x.callers(word), -1);
            Check.due("nested none", x.nested(word), -1);
        }
        StackWords chain = Check.of("word a=;word b=a a;word c=b;word d=c a;word f=d;word g=f if f else a then;");
        Check.due("all call a", chain.callers(0), 62);
        Check.due("through others", chain.callers(2), 56);
        Check.due("as deep as can be", chain.nested(5), 6);
        Check.due("once told", chain.calls(5), 17);
    }

    private static void counts() {
        StackWords x = Check.of(TEXT);
        Check.due("pure", x.pure(), 8 + 32);
        Check.due("pure, with push", Check.of("word a = dup push pop; word b = 1; word c = dup drop; word d = c;").pure(), 4);
        // push 3, pop 3 (both are told thrice), dup 2.
        Check.due("commonest", x.commonest(), 7);
        Check.due("no things", Check.of("word a = 1 2 3;").commonest(), -1);
        Check.due("the first", Check.of("word a = same add add same;").commonest(), 9);
        Check.due("the most", Check.of("word a = add; word b = same same;").commonest(), 14);
    }
}
