/** Promises 8 to 17, 46 to 48: the MACHINE, ACTS and images. */
public final class MachineTest {
    public static void main(String[] args) {
        laying();
        things();
        byHand();
        calling();
        clearing();
        inlining();
        flipping();
        undoing();
        images();
        abouts();
        Check.done();
    }

    private static void stack(StackWords x, String told, int... cells) {
        Check.due(told + ": how many", x.about(2), cells.length);
        for (int i = 0; i < cells.length; i++) {
            Check.due(told + ": cell from below " + i, x.cell(cells.length - 1 - i), cells[i]);
        }
        Check.due(told + ": none above", x.cell(-1), 0);
        Check.due(told + ": none below", x.cell(cells.length), 0);
    }

    private static void laying() {
        StackWords x = new StackWords();
        Check.due("lay(-1)", x.lay(-1), -1);
        Check.due("lay(10000)", x.lay(10000), -1);
        Check.due("no act", x.about(6), 0);
        for (int n = 1; n <= 24; n++) {
            Check.due("lay", x.lay(n == 24 ? 9999 : n - 1), n);
        }
        Check.due("no room", x.lay(1), -1);
        Check.due("acts", x.about(6), 24);
        Check.due("top", x.cell(0), 9999);
        Check.due("lowest", x.cell(23), 0);
        Check.due("second", x.cell(22), 1);
        Check.due("no room for dup", x.run(0), -1);
        Check.due("no room for over", x.run(3), -1);
        Check.due("no room for tuck", x.run(6), -1);
        Check.due("room for swap", x.run(2), 24);
        Check.due("room for rot", x.run(4), 24);
        Check.due("room for push", x.run(7), 23);
        Check.due("lay", x.lay(3), 24);
        Check.due("no room for pop", x.run(8), -1);
    }

    private static void things() {
        int[][] due = {
            {7, 3, 5, 5}, {7, 3}, {7, 5, 3}, {7, 3, 5, 3}, {3, 5, 7}, {7, 5}, {7, 5, 3, 5},
            {7, 3}, null, {7, 8}, {7, -2}, {7, 15}, {7, 3, -5}, {7, 1}, {7, 0}};
        for (int thing = 0; thing < 15; thing++) {
            StackWords x = new StackWords();
            x.lay(7);
            x.lay(3);
            x.lay(5);
            if (due[thing] == null) {
                Check.due("nothing to pop", x.run(thing), -1);
                continue;
            }
            Check.due("run " + thing, x.run(thing), due[thing].length);
            stack(x, "thing " + thing, due[thing]);
            Check.due("undo", x.undo(), true);
            stack(x, "undone " + thing, 7, 3, 5);
        }
        StackWords x = new StackWords();
        x.lay(5);
        x.lay(5);
        x.run(14);
        stack(x, "same", 1);
        x.lay(0);
        x.run(13);
        stack(x, "not less", 0);
        x.lay(9999);
        x.run(0);
        x.run(11);
        x.run(0);
        x.run(11);
        stack(x, "wraps", 0, 99980001 * 99980001);
        x.run(12);
        stack(x, "neg", 0, -(99980001 * 99980001));
    }

    private static void byHand() {
        int[] takes = {1, 1, 2, 2, 3, 2, 2, 1, 0, 2, 2, 2, 1, 2, 2};
        for (int thing = 0; thing < 15; thing++) {
            StackWords x = new StackWords();
            for (int n = 1; n < takes[thing]; n++) {
                x.lay(n);
            }
            Check.due("too few for " + thing, x.run(thing), -1);
            Check.due("no act", x.about(6), Math.max(0, takes[thing] - 1));
        }
        StackWords x = new StackWords();
        Check.due("run(15)", x.run(15), -1);
        Check.due("run(-1)", x.run(-1), -1);
        for (int n = 1; n <= 7; n++) {
            x.lay(n);
        }
        for (int n = 6; n >= 1; n--) {
            Check.due("push", x.run(7), n);
        }
        Check.due("a seventh push", x.run(7), -1);
        Check.due("put by", x.about(3), 6);
        for (int i = 0; i < 6; i++) {
            Check.due("put " + i, x.put(i), i + 2);
        }
        Check.due("put(6)", x.put(6), 0);
        Check.due("put(-1)", x.put(-1), 0);
        Check.due("pop", x.run(8), 2);
        stack(x, "popped", 1, 2);
        Check.due("put by", x.about(3), 5);
        x.run(12);
        Check.due("push what is below 0", x.run(7), 1);
        Check.due("put below 0", x.put(0), -2);
        Check.due("pop it", x.run(8), 2);
        stack(x, "below 0", 1, -2);
    }

    private static void calling() {
        StackWords x = Check.of("word sq = dup mul; word up = times 9 1 add next push pop; word six = drop drop drop drop drop drop 1;"
            + " word far = 1 2 3 4 5 drop drop drop drop drop; word c = less if 10 else 20 then; word d = push sq pop;");
        Check.due("needs one", x.call(0), -1);
        Check.due("no word", x.call(6), -1);
        Check.due("no word", x.call(-1), -1);
        Check.due("no act", x.about(6), 0);
        x.lay(7);
        Check.due("call", x.call(0), 1);
        stack(x, "49", 49);
        Check.due("loop", x.call(1), 1);
        stack(x, "58", 58);
        x.lay(3);
        x.lay(4);
        Check.due("branch", x.call(4), 2);
        stack(x, "less", 58, 10);
        x.lay(10);
        Check.due("other branch", x.call(4), 2);
        stack(x, "not less", 58, 20);
        x.run(7);
        x.lay(6);
        Check.due("put by beneath", x.call(5), 2);
        stack(x, "beneath", 58 * 58, 6);
        Check.due("put stays", x.put(0), 20);
        Check.due("six needed", x.call(2), -1);
        for (int n = 3; n <= 6; n++) {
            x.lay(n);
        }
        Check.due("six there", x.call(2), 1);
        for (int n = 2; n <= 19; n++) {
            x.lay(n);
        }
        Check.due("room for five", x.call(3), 19);
        x.lay(1);
        Check.due("no room for five", x.call(3), -1);
    }

    private static void clearing() {
        StackWords x = new StackWords();
        Check.due("clear none", x.clear(), -1);
        Check.due("no act", x.about(6), 0);
        x.lay(1);
        x.lay(2);
        x.run(7);
        Check.due("clear both", x.clear(), 2);
        Check.due("cells", x.about(2), 0);
        Check.due("put by", x.about(3), 0);
        Check.due("clear none", x.clear(), -1);
        Check.due("undo", x.undo(), true);
        Check.due("cells", x.about(2), 1);
        Check.due("put", x.put(0), 2);
        x.run(1);
        Check.due("clear the second alone", x.clear(), 1);
    }

    private static void inlining() {
        StackWords x = Check.of("word a=; word b=; word c=;");
        Check.due("inline", x.inline(2), 4);
        Check.due("inline", x.inline(0), 5);
        Check.due("inline", x.inline(2), 1);
        Check.due("none", x.inline(3), -1);
        Check.due("none", x.inline(-1), -1);
        Check.due("acts", x.about(6), 3);
        Check.due("no one any more", x.inline(0), 0);
        x.undo();
        x.clear();
        x.undo();
        Check.due("undone", x.about(4), 5);
        x.lay(1);
        x.clear();
        Check.due("clear leaves it", x.about(4), 5);
    }

    private static void flipping() {
        StackWords x = Check.of("flips 99; draw 999;");
        Check.due("seed", x.about(5), 999);
        Check.due("no cell", x.flip(), -1);
        // 999 * 137 + 71 = 136,934.
        Check.due("seed", x.about(5), 934);
        Check.due("an act all the same", x.about(6), 1);
        Check.due("undo", x.undo(), true);
        Check.due("seed", x.about(5), 999);
        x.lay(0);
        Check.due("bit", x.flip(), 9);
        Check.due("turned", x.cell(0), 512);
        // 934 * 137 + 71 = 128,029.
        Check.due("bit", x.flip(), 0);
        Check.due("turned", x.cell(0), 513);
        StackWords rare = Check.of("flips 34; draw 999;");
        rare.lay(5);
        Check.due("34 is not less than 34", rare.flip(), -1);
        Check.due("as it was", rare.cell(0), 5);
        StackWords more = Check.of("flips 35; draw 999;");
        more.lay(512);
        Check.due("34 is less than 35", more.flip(), 9);
        Check.due("turned back", more.cell(0), 0);
    }

    private static void undoing() {
        StackWords x = new StackWords();
        Check.due("undo none", x.undo(), false);
        Check.due("redo none", x.redo(), false);
        for (int n = 1; n <= 45; n++) {
            x.lay(n);
            if (n % 3 == 0) {
                x.run(1);
                x.run(1);
            }
        }
        Check.due("40 kept", x.about(6), 40);
        int cells = x.about(2);
        for (int n = 1; n <= 40; n++) {
            Check.due("undo", x.undo(), true);
        }
        Check.due("no more", x.undo(), false);
        Check.due("to be redone", x.about(7), 40);
        for (int n = 1; n <= 40; n++) {
            Check.due("redo", x.redo(), true);
        }
        Check.due("no more", x.redo(), false);
        Check.due("cells", x.about(2), cells);
        x.undo();
        x.undo();
        Check.due("two", x.about(7), 2);
        x.run(15);
        x.lay(-1);
        Check.due("what was not done leaves them", x.about(7), 2);
        x.lay(77);
        Check.due("another act", x.about(7), 0);
        Check.due("kept", x.about(6), 39);
        Check.due("redo none", x.redo(), false);
        Check.due("top", x.cell(0), 77);
        x.undo();
        Check.due("redo", x.redo(), true);
        Check.due("top", x.cell(0), 77);
    }

    private static void images() {
        StackWords x = Check.of("word a=; draw 3; flips 100;");
        Check.due("nothing kept", x.back(0), -1);
        Check.due("no box", x.image(3), -1);
        Check.due("no box", x.image(-1), -1);
        Check.due("no box", x.back(3), -1);
        Check.due("no box", x.back(-1), -1);
        x.lay(8);
        x.lay(9);
        x.run(7);
        x.inline(0);
        x.flip();
        int seed = x.about(5);
        int top = x.cell(0);
        Check.due("image", x.image(2), 1);
        Check.due("acts stay", x.about(6), 5);
        x.clear();
        x.inline(0);
        x.flip();
        x.undo();
        Check.due("back", x.back(2), 1);
        Check.due("no acts", x.about(6), 0);
        Check.due("none to redo", x.about(7), 0);
        Check.due("undo none", x.undo(), false);
        Check.due("seed", x.about(5), seed);
        Check.due("top", x.cell(0), top);
        Check.due("put", x.put(0), 9);
        Check.due("inlined", x.about(4), 1);
        Check.due("other box", x.back(0), -1);
        x.lay(1);
        Check.due("again", x.back(2), 1);
        Check.due("over it", x.image(2), 1);
        x.clear();
        x.image(2);
        Check.due("the later one", x.back(2), 0);
    }

    private static void abouts() {
        StackWords x = Check.of("word a = dup 1 add; word b = a; takes 1 + (form); flips 30; draw 7;");
        x.lay(4);
        x.lay(5);
        x.lay(5);
        x.run(7);
        x.inline(1);
        x.undo();
        x.seen(0, 0, 0, 0, false);
        x.later(12);
        x.feed(0, 0, 0, 0, 0);
        x.shortest(3, 0);
        int[] due = {2, 4, 2, 1, 0, 7, 4, 1, 1, 12, 20, 3, 3, 30};
        for (int what = 0; what < due.length; what++) {
            Check.due("about " + what, x.about(what), due[what]);
        }
        Check.due("about(14)", x.about(14), -1);
        Check.due("about(-1)", x.about(-1), -1);
    }
}
