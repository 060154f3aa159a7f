/** Objects in states that tests begin with; each within some 200 calls. */
final class Made {
    private Made() {
    }

    static StackWords fresh() {
        return new StackWords();
    }

    /** Three WORDS, something on both stacks, ACTS to undo and to redo, two BOXES, SEEN told and untold, something lies there, a TAPE. */
    static StackWords rich() {
        StackWords x = Check.of("word a = dup mul; word b = if a else neg then; word c = add b; takes 1 + form * kind; flips 60; draw 33;");
        x.lay(5);
        x.lay(6);
        x.lay(7);
        x.lay(8);
        x.run(7);
        x.inline(1);
        x.flip();
        x.image(0);
        x.lay(9);
        x.call(0);
        x.image(2);
        x.flip();
        x.clear();
        x.undo();
        x.undo();
        x.seen(1, 2, 3, 4, false);
        x.later(10);
        x.seen(4, 5, 6, 1, false);
        x.untell(0);
        x.later(10);
        x.seen(0, 0, 0, 0, true);
        x.shortest(3, 321);
        Check.tape(x, "word q = dup; flips 3;".getBytes());
        return x;
    }

    /** 24 cells, 6 put by, 42 ACTS done, of which 40 are kept, three BOXES, 30 SEEN, 1,600 bytes on the TAPE. */
    static StackWords full() {
        StackWords x = Check.of("word a = add; flips 7; draw 500;");
        for (int n = 1; n <= 6; n++) {
            x.lay(n);
            x.run(7);
        }
        x.image(0);
        for (int n = 1; n <= 24; n++) {
            x.lay(100 + n);
        }
        x.image(1);
        for (int n = 1; n <= 5; n++) {
            x.inline(0);
        }
        x.flip();
        x.image(2);
        for (int n = 0; n < 30; n++) {
            x.seen(n % 10, n / 10, 7, 50 + n, false);
        }
        for (int n = 1; n <= 80; n++) {
            x.feed(0x20202020, 0x20202020, 0x20202020, 0x20202020, 0x20202020);
        }
        return x;
    }

    /** The TIME is 99,990. */
    static StackWords late() {
        StackWords x = Check.of("word a = add;");
        x.seen(1, 2, 3, 5, true);
        for (int n = 1; n <= 99; n++) {
            x.later(1000);
        }
        x.later(990);
        x.seen(1, 2, 3, 6, false);
        return x;
    }
}
