/** Promises 40 to 45: what was SEEN, what FITS, what to ASK. */
public final class SightingsTest {
    public static void main(String[] args) {
        telling();
        untelling();
        later();
        fitting();
        faultsOfFits();
        asking();
        Check.done();
    }

    private static void fits(StackWords x, int k, int... due) {
        Check.due("fits", x.fits(k), due.length);
        for (int i = 0; i < due.length; i++) {
            Check.due("fit " + i, x.fit(i, k), due[i]);
        }
        Check.due("none such", x.fit(due.length, k), -1);
        Check.due("none such", x.fit(-1, k), -1);
    }

    private static void telling() {
        StackWords none = new StackWords();
        Check.due("no words", none.seen(0, 0, 0, 0, true), -1);
        StackWords x = Check.of("word a = add;");
        int[][] wrong = {{10, 0, 0}, {0, 10, 0}, {0, 0, 10}, {-1, 0, 0}, {0, -1, 0}, {0, 0, -1}};
        for (int[] w : wrong) {
            Check.due("can't be", x.seen(w[0], w[1], w[2], 0, true), -1);
        }
        for (int n = 0; n < 30; n++) {
            Check.due("seen", x.seen(9, 0, n % 10, n % 10, true), n);
        }
        Check.due("31", x.seen(0, 0, 0, 0, true), -1);
        Check.due("how many", x.about(8), 30);
        x.untell(0);
        Check.due("untold ones count", x.seen(0, 0, 0, 0, true), -1);
    }

    private static void untelling() {
        StackWords x = Check.of("word a = add;");
        Check.due("none such", x.untell(0), false);
        x.later(5);
        x.seen(0, 2, 3, 6, true);
        x.later(5);
        Check.due("untell", x.untell(0), true);
        Check.due("already", x.untell(0), false);
        Check.due("none such", x.untell(1), false);
        Check.due("none such", x.untell(-1), false);
        fits(x, 4, 0, 1, 2, 3, 4, 5, 6, 9, 10, 11, 12, 13, 14);
        fits(x, 5, 11);
        fits(x, 9, 11);
        fits(x, 10, 0, 1, 2, 3, 4, 5, 6, 9, 10, 11, 12, 13, 14);
        fits(x, -1, 0, 1, 2, 3, 4, 5, 6, 9, 10, 11, 12, 13, 14);
        x.seen(0, 2, 3, 5, true);
        Check.due("told and untold at once", x.untell(1), true);
        Check.due("it never counts", x.fits(10), 13);
    }

    private static void later() {
        StackWords x = new StackWords();
        Check.due("later(0)", x.later(0), 0);
        Check.due("later(1000)", x.later(1000), 1000);
        Check.due("later(1001)", x.later(1001), -1);
        Check.due("later(-1)", x.later(-1), -1);
        for (int n = 2; n <= 99; n++) {
            x.later(1000);
        }
        Check.due("later", x.later(999), 99999);
        Check.due("above", x.later(2), -1);
        Check.due("as it was", x.about(9), 99999);
        Check.due("to the most", x.later(1), 100000);
        Check.due("above", x.later(1), -1);
        Check.due("none", x.later(0), 100000);
    }

    private static void fitting() {
        StackWords x = Check.of("word z = dup; word a = add 1 add;");
        x.seen(4, 2, 3, 6, true);
        // 2 3 comes to 6: add (5 + 1); of drop: 2 + 1; nip: 3 + 1; mul: 7.
        fits(x, 0, 9);
        StackWords y = Check.of("word a = 5;");
        y.seen(4, 2, 3, 3, false);
        // 3 is at the top after dup, nip, tuck; the others are not 3: drop 2, swap 2, over 2, rot 4, add 5, sub -1, mul 6, neg -3, less 1, same 0.
        fits(y, 0, 1, 2, 3, 4, 9, 10, 11, 12, 13, 14);
        y.seen(4, 2, 3, 2, true);
        fits(y, 0, 1, 2, 3);
        y.seen(1, 0, 0, 0, true);
        y.inline(0);
        fits(y, 0, 1, 2, 3);
        StackWords z = Check.of("word a = dup; word b = a 2 mul;");
        z.seen(0, 0, 7, 14, true);
        fits(z, 0, 0, 5, 6, 9);
        Check.due("no items", Check.of("word e = ;").fits(0), 0);
        Check.due("first an if", Check.of("word e = if then;").fits(0), 0);
        Check.due("first a times", Check.of("word e = times 2 next;").fits(0), 0);
        Check.due("no words", new StackWords().fits(0), 0);
    }

    private static void faultsOfFits() {
        // push alone can stand there (pop needs it), and no other.
        fits(Check.of("word a = push neg pop;"), 0, 7);
        // push leaves something pushed, pop pops what was not; drop leaves none of three.
        fits(Check.of("word a = dup drop drop;"), 0, 0, 2, 3, 4, 6, 12);
        // With these it would need more than 3: two are taken by add, then two more ahead of it.
        fits(Check.of("word a = dup rot drop drop;"), 0, 0, 2, 3, 4, 6, 12);
        // The loop leaves what it found whatever stands first; joins as well.
        Check.due("loop", Check.of("word a = dup times 3 neg next;").fits(0), 13);
        // Higher than 12 by those which lay one more.
        fits(Check.of("word a = neg 1 1 1 1 1 1 1 1 1 1 1 1;"), 0, 1, 2, 4, 5, 9, 10, 11, 12, 13, 14);
    }

    private static void asking() {
        StackWords x = Check.of("word a = add;");
        Check.due("a", x.ask(10, 0, 0, 0), -1);
        Check.due("a", x.ask(-1, 0, 0, 0), -1);
        Check.due("b", x.ask(0, 10, 0, 0), -1);
        Check.due("b", x.ask(0, -1, 0, 0), -1);
        Check.due("what", x.ask(0, 0, 2, 0), -1);
        Check.due("what", x.ask(0, 0, -1, 0), -1);
        // a 3, b 5, c: dup c, drop 5, swap 5, over 5, rot 3, nip c, tuck c, add 5 + c, sub 5 - c, mul 5c, neg -c, less, same.
        // c = 0: 0 thrice and mul, neg, less, same (7). c = 1: 1, 5 thrice and mul (4). c = 2: 2 thrice; drop, swap, over 5; rot, sub 3; less, same 0: 3.
        Check.due("c", x.ask(3, 5, 0, 0), 2);
        Check.due("left", x.ask(3, 5, 1, 0), 3);
        x.seen(0, 1, 2, 1, true);
        // drop, swap, over (1); less 1 (1 < 2); sub -1, same 0: not. So drop, swap, over, less.
        Check.due("fits", x.fits(0), 4);
        // Of 4 7 c: 7 thrice and less: 1 if 7 < c.
        Check.due("c", x.ask(4, 7, 0, 0), 0);
        Check.due("left", x.ask(4, 7, 1, 0), 3);
        Check.due("by k", x.ask(3, 5, 1, -1), 3);
        x.seen(0, 1, 2, 1, false);
        Check.due("none fits", x.ask(4, 7, 0, 0), -1);
        Check.due("no words", new StackWords().ask(0, 0, 0, 0), -1);
    }
}
