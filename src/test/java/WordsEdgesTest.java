/**
 * Part 2 of the document (what is found over a WORD, FAULTS 6 and 7) and promises 6, 7, 30 to 32, 34 to 36, at the edges:
 * of each bound the last that is taken and the first that is not.
 */
public final class WordsEdgesTest {
    private static final String[] THINGS = {"dup", "drop", "swap", "over", "rot", "nip", "tuck", "push", "pop", "add", "sub", "mul", "neg",
        "less", "same"};
    private static final int[] OFF = {1, 1, 2, 2, 3, 2, 2, 1, 0, 2, 2, 2, 1, 2, 2};
    private static final int[] ON = {2, 0, 2, 3, 3, 1, 3, 0, 1, 1, 1, 1, 1, 1, 1};
    private static final int[] NEVER = {Integer.MIN_VALUE, -1, 6, 7, 32, Integer.MAX_VALUE};

    public static void main(String[] args) {
        thingsAlone();
        needsSix();
        needsOverWays();
        highTwelve();
        highOverWays();
        pushedSix();
        popped();
        pushedAtTheEnd();
        joins();
        loops();
        steps();
        leastOfFaults();
        wordAnswers();
        itemAnswers();
        heightAnswers();
        graphAnswers();
        countAnswers();
        Check.done();
    }

    private static void row(StackWords x, int word, int... due) {
        for (int what = 0; what < due.length; what++) {
            Check.due("word(" + word + ", " + what + ")", x.word(word, what), due[what]);
        }
    }

    /** Each THING alone: what it takes is NEEDED, what it lays is LEFT, HIGH is 0 at least. */
    private static void thingsAlone() {
        for (int t = 0; t < 15; t++) {
            if (t == 7 || t == 8) {
                continue;
            }
            row(Check.of("word a = " + THINGS[t] + ";"), 0, 1, OFF[t], ON[t], Math.max(0, ON[t] - OFF[t]), 0, 1, 0);
        }
        row(Check.of("word a = push pop;"), 0, 2, 1, 1, 0, 1, 2, 0);
        row(Check.of("word a = 0;"), 0, 1, 0, 1, 1, 0, 1, 0);
        row(Check.of("word a = ;"), 0, 0, 0, 0, 0, 0, 0, 0);
        row(Check.of("word a = if then;"), 0, 2, 1, 0, 0, 0, 1, 0);
        row(Check.of("word a = times 9 next;"), 0, 2, 0, 0, 0, 0, 1, 0);
    }

    /** FAULT 7: 'it NEEDS more than 6', by each THING, by an if, by a CALL. */
    private static void needsSix() {
        for (int t = 0; t < 15; t++) {
            if (t == 8) {
                continue;
            }
            String end = t == 7 ? " pop;" : ";";
            String ahead = "word a = " + "drop ".repeat(6 - OFF[t]);
            Check.due("needs 6 by " + THINGS[t], Check.of(ahead + THINGS[t] + end).word(0, 1), 6);
            Check.faultAtMark(ahead + "drop ^" + THINGS[t] + end, 7);
        }
        Check.due("needs 6 by if", Check.of("word a = drop drop drop drop drop if then;").word(0, 1), 6);
        Check.faultAtMark("word a = drop drop drop drop drop drop ^if then;", 7);
        // N, times and pop take nothing.
        Check.due("N takes nothing", Check.of("word a = drop drop drop drop drop drop 1;").word(0, 1), 6);
        Check.due("times takes nothing", Check.of("word a = drop drop drop drop drop drop times 2 next;").word(0, 1), 6);
        String six = "word s = drop drop drop drop drop drop;";
        Check.due("needs 6 by a call", Check.of(six + "word a = s;").word(1, 1), 6);
        Check.faultAtMark(six + "word a = drop ^s;", 7);
        Check.due("one there", Check.of(six + "word a = drop 1 s;").word(1, 1), 6);
        Check.faultAtMark("word s = drop drop drop;word a = s s ^s;", 7);
        Check.due("a call that leaves them", Check.of("word s = rot rot rot;word a = s s s;").word(1, 1), 3);
        // What is taken counts, though as many are laid again.
        Check.due("rot at -3", Check.of("word a = drop drop drop rot;").word(0, 1), 6);
        Check.faultAtMark("word a = drop drop drop drop ^rot;", 7);
        row(Check.of("word s = push push push push push push pop pop pop pop pop pop; word a = s 1 1 1 1 1 1 1 1 1 1 1 1;"), 1,
            13, 6, 18, 12, 0, 25, 0);
    }

    /** 'It NEEDS how far below 0 anything is taken at the most', whichever way it goes. */
    private static void needsOverWays() {
        Check.due("behind if", Check.of("word a = if drop drop 1 1 else then;").word(0, 1), 3);
        Check.due("behind else", Check.of("word a = if else drop drop 1 1 then;").word(0, 1), 3);
        Check.due("without else", Check.of("word a = if drop drop 1 1 then;").word(0, 1), 3);
        Check.due("behind then", Check.of("word a = if then drop drop;").word(0, 1), 3);
        Check.due("in a loop", Check.of("word a = times 9 drop drop 1 1 next;").word(0, 1), 2);
        Check.due("else begins anew", Check.of("word a = if drop 1 else drop 1 then;").word(0, 1), 2);
        Check.faultAtMark("word a = drop drop drop if drop drop ^drop", 7);
        Check.faultAtMark("word a = drop drop drop if else drop drop ^drop", 7);
        Check.faultAtMark("word a = times 2 drop drop drop drop drop drop ^drop", 7);
        Check.due("above 0 nothing is needed", Check.of("word a = 1 2 3 rot add add;").word(0, 1), 0);
        Check.due("one of two is there", Check.of("word a = 1 add;").word(0, 1), 1);
        Check.due("a call of which one is there", Check.of("word s = rot; word a = 1 s;").word(1, 1), 2);
        Check.due("a call of which all are there", Check.of("word s = rot; word a = 1 2 3 s;").word(1, 1), 0);
    }

    /** FAULT 7: 'goes more than 12 HIGH', by each that lays more than it takes. */
    private static void highTwelve() {
        String eleven = "word a = " + "1 ".repeat(11);
        String twelve = "word a = " + "1 ".repeat(12);
        String[] one = {"1", "9999", "dup", "over", "tuck"};
        for (String item : one) {
            Check.due("12 by " + item, Check.of(eleven + item + ";").word(0, 3), 12);
            Check.faultAtMark(twelve + "^" + item + ";", 7);
        }
        String[] none = {"drop", "swap", "rot", "nip", "add", "sub", "mul", "neg", "less", "same", "push pop", "1 drop"};
        for (String item : none) {
            Check.due("12 all the same with " + item, Check.of((item.equals("1 drop") ? eleven : twelve) + item + ";").word(0, 3), 12);
        }
        Check.due("if and times lay nothing", Check.of(twelve + "times 2 next if then;").word(0, 3), 12);
        // Pushed away there is room for one more; to pop it then is one too many.
        Check.faultAtMark(twelve + "push 1 ^pop;", 7);
        Check.due("pop to 12", Check.of(eleven + "push 1 pop;").word(0, 3), 12);
        Check.due("from below 0", Check.of("word a = drop drop " + "1 ".repeat(14) + ";").word(0, 3), 12);
        Check.faultAtMark("word a = drop drop " + "1 ".repeat(14) + "^1;", 7);
        String two = "word s = 1 1 drop drop;";
        Check.due("12 within a call", Check.of(two + "word a = " + "1 ".repeat(10) + "s;").word(1, 3), 12);
        Check.faultAtMark(two + "word a = " + "1 ".repeat(11) + "^s;", 7);
        String all = "word s = " + "1 ".repeat(12) + ";";
        Check.due("12 by a call", Check.of(all + "word a = s;").word(1, 3), 12);
        Check.faultAtMark(all + "word a = 1 ^s;", 7);
        Check.due("a call from -1", Check.of(all + "word a = drop s;").word(1, 3), 11);
        Check.due("below 0 throughout", Check.of("word a = drop drop dup;").word(0, 3), 0);
        Check.due("a call below 0", Check.of("word s = 1 1 drop; word a = drop drop drop s;").word(1, 3), 0);
    }

    /** 'HIGH is the greatest HEIGHT anywhere'. */
    private static void highOverWays() {
        Check.due("behind if", Check.of("word a = if 1 1 1 drop drop drop else then;").word(0, 3), 2);
        Check.due("behind else", Check.of("word a = if else 1 1 1 drop drop drop then;").word(0, 3), 2);
        Check.due("behind else begins anew", Check.of("word a = 1 if 1 1 else 1 1 then;").word(0, 3), 2);
        Check.due("in a loop once", Check.of("word a = times 9 1 1 drop drop next;").word(0, 3), 2);
        Check.faultAtMark("word a = " + "1 ".repeat(12) + "if 1 ^1", 7);
        Check.faultAtMark("word a = " + "1 ".repeat(12) + "if 1 else 1 ^1", 7);
        Check.of("word a = " + "1 ".repeat(12) + "if 1 else 1 then;");
        Check.faultAtMark("word a = " + "1 ".repeat(11) + "times 2 1 ^1", 7);
    }

    /** FAULT 7: 'more than 6 are PUSHED'. */
    private static void pushedSix() {
        String six = "push push push push push push ";
        String back = "pop pop pop pop pop pop ";
        Check.due("6", Check.of("word a = " + six + back + ";").word(0, 4), 6);
        Check.due("5", Check.of("word a = push push push push push pop pop pop pop pop;").word(0, 4), 5);
        Check.faultAtMark("word a = 1 " + six + "^push", 7);
        Check.due("6 at once, 7 in all", Check.of("word a = " + six + "pop push " + back + ";").word(0, 4), 6);
        String called = "word s = " + six + back + ";";
        StackWords x = Check.of(called + "word a = " + "1 ".repeat(6) + "push s pop drop drop drop drop drop drop;");
        Check.due("those of a call are not its own", x.word(1, 4), 1);
        Check.due("none by a call", Check.of(called + "word a = s;").word(1, 4), 0);
        Check.due("six and six in a call", Check.of(called + "word a = 1 1 1 1 1 1 " + six + "s " + back + ";").word(1, 4), 6);
        Check.due("on one way alone", Check.of("word a = if push push pop pop else then;").word(0, 4), 2);
        Check.due("on the other way", Check.of("word a = if else push push pop pop then;").word(0, 4), 2);
        Check.faultAtMark("word a = 1 1 1 push push push push push push if ^push", 7);
        Check.faultAtMark("word a = 1 1 1 push push push push push push if else ^push", 7);
    }

    /** FAULT 7: 'something is popped that was not pushed in this WORD'. */
    private static void popped() {
        Check.faultAtMark("word a = ^pop", 7);
        Check.faultAtMark("word a = 1 2 ^pop", 7);
        Check.of("word a = push pop;");
        Check.faultAtMark("word a = push pop ^pop", 7);
        Check.of("word a = push push pop pop;");
        Check.faultAtMark("word a = push push pop pop ^pop", 7);
        Check.faultAtMark("word a = push if pop else pop then ^pop", 7);
        Check.of("word a = push if pop else pop then;");
        Check.faultAtMark("word a = push if pop ^pop", 7);
        Check.faultAtMark("word a = push if pop else pop ^pop", 7);
        Check.faultAtMark("word a = push times 2 pop ^pop", 7);
        // What a WORD that is called has pushed it has popped: there is nothing of it.
        Check.faultAtMark("word s = push pop; word a = s ^pop", 7);
        Check.faultAtMark("word s = push pop; word a = push s pop ^pop", 7);
        Check.faultAtMark("word s = ^pop; word a = push s;", 7);
    }

    /** FAULT 7 at the ; : 'something is pushed yet'. */
    private static void pushedAtTheEnd() {
        Check.faultAtMark("word a = push^;", 7);
        Check.faultAtMark("word a = push push pop  ^;", 7);
        Check.faultAtMark("word a = if push else push then ^;", 7);
        Check.of("word a = if push else push then pop;");
        Check.faultAtMark("word a = push ^; #", 7);
        Check.faultAtMark("word a = push ^#;", 1);
        Check.faultAtMark("word a = push^", 2);
        Check.faultAtMark("word a = push times 2 ^;", 2);
    }

    /** FAULT 6 at a then: HEIGHT and PUSHED, each alone, with an else and without. */
    private static void joins() {
        String[] alike = {"if then", "if else then", "if neg then", "if 1 else 2 then", "if drop else nip then", "if dup drop then",
            "if push else push then pop", "if push pop else then", "push if pop else pop then", "if dup if then else then", "if dup if then then"};
        for (String items : alike) {
            Check.faultAtMark("word a = " + items + " ^#", 1);
        }
        String[] others = {"if 1 ^then", "if drop ^then", "if else 1 ^then", "if else drop ^then", "if 1 else ^then", "if drop else 1 ^then",
            "if 1 else drop ^then", "if push ^then", "if push 1 ^then", "if else push ^then", "if else push 1 ^then", "push if pop ^then",
            "push if pop drop ^then", "push if else pop drop ^then", "if push else drop ^then", "if drop else push ^then",
            "push if drop else pop drop drop ^then", "if if then ^then", "if if then else ^then"};
        for (String items : others) {
            Check.faultAtMark("word a = " + items + ";", 6);
        }
        // At the then it must be as behind the if, however it was between.
        Check.of("word a = if 1 1 1 drop drop drop then;");
        Check.of("word s = 1; word a = if s else 1 then;");
        Check.faultAtMark("word s = 1; word a = if s ^then;", 6);
    }

    /** FAULT 6 at a next: 'a loop does not leave what it found', be it done once alone. */
    private static void loops() {
        for (int n = 1; n <= 9; n += 8) {
            String begin = "word a = push times " + n + " ";
            Check.of(begin + "next pop;");
            Check.of(begin + "neg next pop;");
            Check.of(begin + "pop push next pop;");
            Check.faultAtMark(begin + "1 ^next pop;", 6);
            Check.faultAtMark(begin + "drop ^next pop;", 6);
            Check.faultAtMark(begin + "push ^next pop;", 6);
            Check.faultAtMark(begin + "push 1 ^next pop;", 6);
            Check.faultAtMark(begin + "pop ^next;", 6);
            Check.faultAtMark(begin + "pop drop ^next;", 6);
            Check.faultAtMark(begin + "times 2 1 ^next drop next pop;", 6);
            Check.faultAtMark(begin + "if ^next", 2);
            Check.faultAtMark(begin + "if then ^next", 6);
            Check.of(begin + "1 if then next pop;");
        }
    }

    /** 'it takes more than 2,000 STEPS', at the ; alone. */
    private static void steps() {
        // 1 + 3 * (1 + 5 * (1 + 6 * (1 + 7 * 3)))
        String most = "word s = ; word a = times 3 times 5 times 6 times 7 neg neg neg next next next next ";
        Check.due("1,999", Check.of(most + ";").word(1, 5), 1999);
        String[] one = {"neg", "7", "s", "if then", "times 9 next"};
        for (String item : one) {
            Check.due("2,000 by " + item, Check.of(most + item + ";").word(1, 5), 2000);
            Check.faultAtMark(most + "neg " + item + " ^;", 7);
            Check.faultAtMark(most + item + " neg ^;", 7);
        }
        // Another FAULT ahead of the ; is told, though there are too many STEPS there.
        Check.faultAtMark(most + "neg neg ^#;", 1);
        Check.faultAtMark(most + "neg neg^", 2);
        Check.faultAtMark("word a = times 9 times 9 times 9 times 9 1 drop next next next next ^; word a = ;", 7);
        String called = "word z = times 9 times 9 times 3 neg neg neg next next next; word a = ";
        // 1 + 9 * (1 + 9 * (1 + 3 * 3)) = 820
        Check.due("a call is one more", Check.of(called + "z;").word(1, 5), 821);
        Check.due("twice", Check.of(called + "z z;").word(1, 5), 1642);
        Check.faultAtMark(called + "z z z ^;", 7);
        Check.due("in a loop", Check.of(called + "times 2 z next;").word(1, 5), 1643);
        Check.faultAtMark(called + "times 3 z next ^;", 7);
        Check.due("the greater of both ways", Check.of(called + "z if z else z then;").word(1, 5), 1643);
        Check.due("the greater is the first", Check.of("word a = if neg neg neg else neg then;").word(0, 5), 4);
        Check.due("the greater is the second", Check.of("word a = if neg else neg neg neg then;").word(0, 5), 4);
        Check.due("without else", Check.of("word a = if neg neg then;").word(0, 5), 3);
        Check.due("an if within an if", Check.of("word a = neg if 1 if neg else 1 drop neg then else neg neg then neg;").word(0, 5), 8);
        Check.due("an if in a loop", Check.of("word a = times 4 1 if neg neg else neg then next;").word(0, 5), 1 + 4 * 4);
        Check.due("a loop in an if", Check.of("word a = if times 4 neg next else neg neg then;").word(0, 5), 1 + 1 + 4);
        // 1 + 2 * (1 + 2 * (1 + 2 * (1 + 2 * 1))) = 31, be there others ahead that are closed.
        String deep = "times 2 times 2 times 2 times 2 neg next next next next;";
        Check.due("four deep", Check.of("word a = " + deep).word(0, 5), 31);
        Check.due("behind a loop", Check.of("word a = times 2 next " + deep).word(0, 5), 32);
        Check.due("behind an if", Check.of("word a = if then " + deep).word(0, 5), 32);
        Check.due("behind two ways", Check.of("word a = if else then if else then " + deep).word(0, 5), 33);
    }

    /** 'at one place the least'; 'the first by its place'. */
    private static void leastOfFaults() {
        String twenty = "1 drop ".repeat(10);
        Check.faultAtMark("word a = " + twenty + "^pop", 2);
        Check.faultAtMark("word a = " + "1 ".repeat(12) + "neg ".repeat(8) + "^1", 2);
        Check.faultAtMark("word a = " + "neg ".repeat(18) + "if 1 ^then", 2);
        Check.faultAtMark("word a = " + "neg ".repeat(18) + "times 2 1 ^next", 2);
        Check.faultAtMark("word a = push if ^;", 2);
        Check.faultAtMark("word a = ^nix #", 5);
        Check.faultAtMark("word a = ^pop nix", 7);
        Check.faultAtMark("word a = if 1 ^then pop", 6);
        Check.faultAtMark("word a = times ^0 pop", 4);
        Check.faultAtMark("word a = drop drop drop drop drop drop times ^0 drop", 4);
        Check.faultAtMark("word a=;word ^a=pop;", 3);
    }

    /** Promise 6. */
    private static void wordAnswers() {
        StackWords x = Check.of("word a=;word b=;word c=;word d=;word f=;word g=dup;");
        Check.due("the last", x.word(5, 0), 1);
        for (int word : NEVER) {
            for (int what = 0; what <= 6; what++) {
                Check.due("no word " + word, x.word(word, what), -1);
            }
        }
        Check.due("the last what", x.word(5, 6), 0);
        int[] whats = {Integer.MIN_VALUE, -1, 7, Integer.MAX_VALUE};
        for (int what : whats) {
            Check.due("no what " + what, x.word(5, what), -1);
        }
        Check.due("none at first", new StackWords().word(0, 0), -1);
        StackWords one = Check.of("word a=;");
        Check.due("the only one", one.word(0, 0), 0);
        Check.due("no second", one.word(1, 0), -1);
        one.inline(0);
        Check.due("inlined", one.word(0, 6), 1);
        one.inline(0);
        Check.due("not any more", one.word(0, 6), 0);
        Check.leavesAll("word", Made::rich, y -> y.word(1, 5), 4);
        Check.leavesAll("no word", Made::rich, y -> y.word(3, 5), -1);
    }

    /** Promise 7. */
    private static void itemAnswers() {
        StackWords x = Check.of("word z=;word a=same 9999 z if else then times 9 next " + "neg ".repeat(12) + ";");
        int[][] due = {{0, 14}, {1, 9999}, {2, 0}, {3, 0}, {4, 0}, {5, 0}, {6, 9}, {7, 0}, {0, 12}};
        for (int i = 0; i < due.length; i++) {
            Check.due("sort of " + i, x.item(1, i, 0), due[i][0]);
            Check.due("which of " + i, x.item(1, i, 1), due[i][1]);
        }
        Check.due("the twentieth", x.item(1, 19, 1), 12);
        Check.due("no 21st", x.item(1, 20, 0), -1);
        int[] never = {Integer.MIN_VALUE, -1, 20, 21, Integer.MAX_VALUE};
        for (int i : never) {
            Check.due("no item " + i, x.item(1, i, 0), -1);
            Check.due("no item " + i, x.item(1, i, 1), -1);
        }
        Check.due("none in an empty one", x.item(0, 0, 0), -1);
        Check.due("none behind an empty one", x.item(0, 1, 0), -1);
        for (int word : NEVER) {
            Check.due("no word " + word, x.item(word, 0, 0), -1);
        }
        Check.due("no third", x.item(2, 0, 0), -1);
        int[] whats = {Integer.MIN_VALUE, -1, 2, Integer.MAX_VALUE};
        for (int what : whats) {
            Check.due("no what " + what, x.item(1, 0, what), -1);
        }
        Check.due("none at first", new StackWords().item(0, 0, 0), -1);
        StackWords calls = Check.of("word a=;word b=;word c=;word d=;word f=;word g=f a;");
        Check.due("which word", calls.item(5, 0, 1), 4);
        Check.due("which word", calls.item(5, 1, 1), 0);
        Check.leavesAll("item", Made::rich, y -> y.item(1, 0, 0), 3);
    }

    private static void heights(String items, int... due) {
        StackWords x = Check.of("word s = 1 1; word a = " + items + ";");
        for (int i = 0; i < due.length; i++) {
            Check.due("height of " + items + " behind " + i, x.height(1, i), due[i]);
        }
        Check.due("none behind the last of " + items, x.height(1, due.length), -100);
        Check.due("none ahead of " + items, x.height(1, -1), -100);
    }

    /** Promise 35. */
    private static void heightAnswers() {
        heights("drop drop drop drop drop drop", -1, -2, -3, -4, -5, -6);
        heights("1 1 1 1 1 1 1 1 1 1 1 1", 1, 2, 3, 4, 5, 6, 7, 8, 9, 10, 11, 12);
        heights("s s drop", 2, 4, 3);
        heights("if 1 else 2 then 3", -1, 0, -1, 0, 0, 1);
        heights("if neg then", -1, -1, -1);
        heights("if drop drop else 1 drop nip drop then", -1, -2, -3, -1, 0, -1, -2, -3, -3);
        heights("1 times 9 1 drop next neg", 1, 1, 2, 1, 1, 1);
        heights("push push pop pop", -1, -2, -1, 0);
        heights("dup drop swap over rot nip tuck add sub mul", 1, 0, 0, 1, 1, 0, 1, 0, -1, -2);
        heights("neg less same", 0, -1, -2);
        heights("");
        for (int word : NEVER) {
            Check.due("no word " + word, Check.of("word a = neg;").height(word, 0), -100);
        }
        int[] never = {Integer.MIN_VALUE, -1, 1, Integer.MAX_VALUE};
        for (int i : never) {
            Check.due("no item " + i, Check.of("word a = neg;").height(0, i), -100);
        }
        Check.due("none at first", new StackWords().height(0, 0), -100);
        Check.leavesAll("height", Made::rich, y -> y.height(0, 0), 1);
    }

    /** Promises 30 to 32. */
    private static void graphAnswers() {
        StackWords none = Check.of("word a=;word b=;word c=;word d=;word f=;word g=;");
        StackWords all = Check.of("word a=;word b=a;word c=a b;word d=a b c;word f=a b c d;word g=a b c d f;");
        StackWords row = Check.of("word a=;word b=a;word c=b;word d=c;word f=d;word g=f;");
        StackWords ways = Check.of("word a=;word b=dup if a else then;word c=dup if else b then;word d=times 9 c next;word f=;word g=f f f;");
        int[] ahead = {0, 1, 3, 7, 15, 31};
        int[] behind = {62, 60, 56, 48, 32, 0};
        int[] callsOfWays = {0, 1, 2, 4, 0, 16};
        int[] callersOfWays = {14, 12, 8, 0, 32, 0};
        int[] nestedOfWays = {1, 2, 3, 4, 1, 2};
        for (int word = 0; word < 6; word++) {
            Check.due("none", none.calls(word), 0);
            Check.due("none", none.callers(word), 0);
            Check.due("it alone", none.nested(word), 1);
            Check.due("all ahead", all.calls(word), ahead[word]);
            Check.due("all behind", all.callers(word), behind[word]);
            Check.due("all within", all.nested(word), word + 1);
            Check.due("one ahead", row.calls(word), word == 0 ? 0 : 1 << word - 1);
            Check.due("all behind", row.callers(word), behind[word]);
            Check.due("all within", row.nested(word), word + 1);
            Check.due("calls on ways", ways.calls(word), callsOfWays[word]);
            Check.due("callers on ways", ways.callers(word), callersOfWays[word]);
            Check.due("nested on ways", ways.nested(word), nestedOfWays[word]);
        }
        for (int word : NEVER) {
            Check.due("no word " + word, all.calls(word), -1);
            Check.due("no word " + word, all.callers(word), -1);
            Check.due("no word " + word, all.nested(word), -1);
        }
        for (int word = 0; word < 6; word++) {
            row.inline(word);
        }
        Check.due("be they inlined", row.nested(5), 6);
        Check.due("be they inlined", row.calls(5), 16);
        Check.due("be they inlined", row.callers(0), 62);
        StackWords fresh = new StackWords();
        Check.due("none at first", fresh.calls(0), -1);
        Check.due("none at first", fresh.callers(0), -1);
        Check.due("none at first", fresh.nested(0), -1);
        Check.leavesAll("calls", Made::rich, y -> y.calls(2), 2);
        Check.leavesAll("callers", Made::rich, y -> y.callers(0), 6);
        Check.leavesAll("nested", Made::rich, y -> y.nested(2), 3);
    }

    /** Promises 34 and 36. */
    private static void countAnswers() {
        Check.due("no words", new StackWords().commonest(), -1);
        Check.due("no items", Check.of("word a=;").commonest(), -1);
        Check.due("no things", Check.of("word a=1 if else then times 2 next;word b=a a a 1;").commonest(), -1);
        for (int t = 0; t < 15; t++) {
            if (t != 7 && t != 8) {
                Check.due("that alone", Check.of("word a=" + THINGS[t] + ";").commonest(), t);
            }
        }
        Check.due("of like ones the first", Check.of("word a=push pop;").commonest(), 7);
        Check.due("of like ones the first", Check.of("word a=same less neg mul sub add;").commonest(), 9);
        Check.due("over all words", Check.of("word a=dup same;word b=same;word c=dup same;").commonest(), 14);
        Check.due("calls do not count again", Check.of("word a=same;word b=a a a dup dup;").commonest(), 0);
        Check.due("no words", new StackWords().pure(), 0);
        Check.due("none of none", Check.of("word a=;word b=;word c=;word d=;word f=;word g=;").pure(), 63);
        for (int t = 0; t < 15; t++) {
            if (t != 8) {
                String item = t == 7 ? "push pop" : THINGS[t];
                Check.due("pure by " + item, Check.of("word a=swap " + item + ";").pure(), t < 7 ? 1 : 0);
                Check.due("pure by " + item, Check.of("word a=" + item + " swap;").pure(), t < 7 ? 1 : 0);
            }
        }
        Check.due("each for itself", Check.of("word a=dup;word b=1;word c=dup;word d=a;word f=;word g=neg;").pure(), 1 + 4 + 16);
        String[] others = {"1", "z", "if then", "times 2 next", "1 drop"};
        for (String items : others) {
            Check.due("not by " + items, Check.of("word z=dup;word a=dup " + items + ";").pure(), 1);
        }
        Check.leavesAll("commonest", Made::rich, StackWords::commonest, 0);
        Check.leavesAll("pure", Made::rich, StackWords::pure, 0);
    }
}
