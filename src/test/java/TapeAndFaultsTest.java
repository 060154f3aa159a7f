/** Promises 1 to 5: a new object, feed, end, code, fault. */
public final class TapeAndFaultsTest {
    public static void main(String[] args) {
        newObject();
        feeding();
        ending();
        coding();
        tokens();
        lines();
        items();
        joins();
        depths();
        formulas();
        Check.done();
    }

    private static void newObject() {
        StackWords x = new StackWords();
        for (int what = 0; what <= 13; what++) {
            Check.due("new about " + what, x.about(what), 0);
        }
        Check.due("new fault(0)", x.fault(0), 0);
        Check.due("new fault(1)", x.fault(1), -1);
        Check.due("new fault(2)", x.fault(2), -1);
        Check.due("new fault(-1)", x.fault(-1), -1);
        Check.due("empty code", x.code(), 0);
    }

    private static void feeding() {
        StackWords x = new StackWords();
        for (int n = 1; n <= 80; n++) {
            Check.due("feed " + n, x.feed(0x20202020, 0x0A200A20, 0x20202020, 0x20202020, 0x20202020), 20 * n);
        }
        Check.due("feed beyond 1600", x.feed(0, 0, 0, 0, 0), -1);
        Check.due("tape after it", x.about(10), 1600);
        Check.due("1600 blanks are a code", x.code(), 0);
        Check.due("tape after code", x.about(10), 0);
        Check.due("end(1600)", x.end(1600), -1);
        for (int n = 1; n <= 80; n++) {
            x.feed(0, 0, 0, 0, 0);
        }
        x.end(1581);
        Check.due("feed to 1601", x.feed(0, 0, 0, 0, 0), -1);
        x.end(1579);
        Check.due("feed to 1599", x.feed(0, 0, 0, 0, 0), 1599);
    }

    private static void ending() {
        StackWords x = new StackWords();
        x.feed(1, 2, 3, 4, 5);
        Check.due("end(21)", x.end(21), -1);
        Check.due("end(-1)", x.end(-1), -1);
        Check.due("tape", x.about(10), 20);
        Check.due("end(20)", x.end(20), 20);
        Check.due("end(3)", x.end(3), 3);
        Check.due("tape", x.about(10), 3);
        Check.due("end(4)", x.end(4), -1);
        Check.due("end(0)", x.end(0), 0);
        String[] cut = {"word ab", "word a = 12", "word a = ab", "flips 10", "takes 1 + form"};
        for (String text : cut) {
            StackWords y = new StackWords();
            Check.tape(y, (text + text.charAt(text.length() - 1)).getBytes());
            y.end(text.length());
            y.code();
            Check.due("cut: " + text, y.fault(1), text.endsWith("= ab") ? 9 : text.length());
        }
    }

    private static void coding() {
        StackWords x = Check.of("word a = dup; flips 10; draw 5;");
        x.lay(3);
        x.run(0);
        x.run(7);
        x.inline(0);
        x.later(9);
        x.seen(1, 2, 3, 4, true);
        x.image(1);
        x.shortest(2, 21);
        Check.due("a fault", Check.code(x, "word a = nip; word"), -1);
        Check.due("words stay", x.about(0), 1);
        Check.due("item stays", x.item(0, 0, 1), 0);
        Check.due("cells stay", x.about(2), 1);
        Check.due("tape stays", x.about(10), 18);
        Check.due("seen stays", x.about(8), 1);
        Check.due("flips stay", x.about(13), 10);
        Check.due("acts stay", x.about(6), 4);
        Check.due("what lies there stays", x.about(12), 1);
        Check.due("fault", x.fault(0), 2);
        Check.due("place", x.fault(1), 18);
        Check.due("a code", Check.code(x, "word b = nip; word c = 7; draw 9;"), 2);
        int[] dueNow = {2, 2, 0, 0, 0, 9, 0, 0, 0, 9, 0, 0, 0, 0};
        for (int what = 0; what < dueNow.length; what++) {
            Check.due("after code about " + what, x.about(what), dueNow[what]);
        }
        Check.due("fault gone", x.fault(0), 0);
        Check.due("place gone", x.fault(1), -1);
        Check.due("box empty", x.back(1), -1);
        Check.due("undo none", x.undo(), false);
        Check.due("redo none", x.redo(), false);
    }

    private static void tokens() {
        Check.faultAtMark("word ^abcdefghi = ;", 1);
        Check.of("word abcdefgh = ;");
        Check.faultAtMark("word a = ^12345;", 1);
        Check.of("word a = 1234;");
        Check.faultAtMark("word a = ^12dup;", 1);
        Check.of("word a = 1 dup 2;");
        Check.of("word a=dup2 add;");
        Check.of("word\na\n=\ndup\n;\n");
        Check.faultAtMark("word a = ^A;", 1);
        Check.faultAtMark("word a = ^\tdup;", 1);
        Check.faultAtMark("^#", 1);
        Check.faultAtMark("word a = dup ^\u00e9;", 1);
        Check.faultAtMark("word a = ^\u0000;", 1);
        Check.faultAtMark("^123456", 1);
        Check.faultAtMark("word a = ^pop #;", 7);
        Check.faultAtMark("^12", 2);
    }

    private static void lines() {
        Check.faultAtMark("word^", 2);
        Check.faultAtMark("word   ^", 2);
        Check.faultAtMark("word a = dup^", 2);
        Check.faultAtMark("^a = dup;", 2);
        Check.faultAtMark("^;", 2);
        Check.faultAtMark("word a ^dup;", 2);
        Check.faultAtMark("word ^7 = dup;", 2);
        String[] own = {"dup", "drop", "swap", "over", "rot", "nip", "tuck", "push", "pop", "add", "sub", "mul", "neg", "less", "same",
            "if", "else", "then", "times", "next", "word", "takes", "flips", "draw", "or", "and", "not", "form", "kind"};
        for (String word : own) {
            Check.faultAtMark("word ^" + word + " = ;", 2);
        }
        String[] free = {"direct", "token", "both", "one", "unit", "item", "e", "sum", "line", "d", "dupp", "du", "time", "timesx"};
        for (String word : free) {
            Check.of("word " + word + " = ;");
        }
        Check.faultAtMark("word a = ; word ^a = ;", 3);
        Check.faultAtMark("word abcdefgh = ; word b = ; word ^abcdefgh = ;", 3);
        StackWords names = Check.of("word ab = ; word ba = ; word b = ; word aa = ; word abcdefgh = ; word abcdefgi = ab ba b aa abcdefgh;");
        for (int i = 0; i < 5; i++) {
            Check.due("name " + i, names.item(5, i, 1), i);
        }
        Check.of("word a=;word b=;word c=;word d=;word f=;word g=;");
        Check.faultAtMark("word a=;word b=;word c=;word d=;word f=;word g=;^word a=;", 2);
        Check.faultAtMark("flips 1; ^flips 2;", 2);
        Check.faultAtMark("draw 1; ^draw 2;", 2);
        Check.faultAtMark("takes 1; ^takes 2;", 2);
        Check.faultAtMark("flips ^101;", 4);
        Check.of("flips 100;draw 999;");
        Check.faultAtMark("draw ^1000;", 4);
        Check.faultAtMark("flips ^;", 2);
        Check.faultAtMark("flips 1 ^2;", 2);
        Check.faultAtMark("flips ^form;", 2);
        Check.faultAtMark("word a = dup ^word b = ;", 2);
        Check.faultAtMark("word a = ^form;", 2);
        Check.faultAtMark("word a = ^(;", 2);
    }

    private static void items() {
        Check.faultAtMark("word a = ^a;", 5);
        Check.faultAtMark("word a = ^b; word b = ;", 5);
        Check.of("word a = ; word b = a;");
        String twenty = "dup drop ".repeat(10);
        Check.of("word a = " + twenty + ";");
        Check.faultAtMark("word a = " + twenty + "^dup;", 2);
        Check.faultAtMark("word a = " + twenty + "^nix;", 2);
        Check.faultAtMark("word a = " + twenty + "^123456;", 1);
        Check.of("word a=" + twenty + ";word b=" + twenty + ";word c=" + twenty + ";");
        Check.faultAtMark("word a=" + twenty + ";word b=" + twenty + ";word c=" + twenty + ";word d= ^dup;", 2);
        Check.of("word a=" + twenty + ";word b=" + twenty + ";word c=" + twenty + ";word d= ;");
        Check.of("word a = " + "dup drop ".repeat(9) + "times 2 next ;");
        Check.faultAtMark("word a = " + "dup drop ".repeat(9) + "dup times 2 ^next ;", 2);
        Check.faultAtMark("word a = times ^0 next;", 4);
        Check.faultAtMark("word a = times ^10 next;", 4);
        Check.faultAtMark("word a = times ^next;", 2);
        Check.of("word a = times 9 next times 1 next;");
        Check.faultAtMark("word a = dup if dup drop ^;", 2);
        Check.faultAtMark("word a = times 3 ^;", 2);
        Check.faultAtMark("word a = ^then;", 2);
        Check.faultAtMark("word a = ^else;", 2);
        Check.faultAtMark("word a = ^next;", 2);
        Check.faultAtMark("word a = if ^next;", 2);
        Check.faultAtMark("word a = times 2 ^then;", 2);
        Check.faultAtMark("word a = times 2 ^else;", 2);
        Check.faultAtMark("word a = if else ^else then;", 2);
        Check.of("word a = times 1 times 1 times 1 times 1 dup drop next next next next;");
        Check.faultAtMark("word a = times 1 times 1 times 1 times 1 ^times 1 next next next next next;", 2);
        Check.faultAtMark("word a = times 1 times 1 if times 1 ^if then next then next next;", 2);
    }

    private static void joins() {
        Check.faultAtMark("word a = if dup ^then;", 6);
        Check.faultAtMark("word a = if dup else ^then;", 6);
        Check.of("word a = if dup else over then;");
        Check.faultAtMark("word a = if push else drop ^then;", 6);
        Check.of("word a = if push else push then pop;");
        Check.faultAtMark("word a = times 2 dup ^next;", 6);
        Check.of("word a = times 2 dup drop next;");
        Check.faultAtMark("word a = 1 times 1 push ^next pop;", 6);
        Check.of("word a = push times 3 pop 1 add push next pop;");
    }

    private static void depths() {
        Check.faultAtMark("word a = ^pop;", 7);
        Check.faultAtMark("word a = push pop ^pop;", 7);
        Check.faultAtMark("word a = push^;", 7);
        Check.of("word a = push push push push push push pop pop pop pop pop pop;");
        Check.faultAtMark("word a = 1 push push push push push push ^push;", 7);
        Check.of("word a = drop drop drop drop drop drop;");
        Check.faultAtMark("word a = drop drop drop drop drop drop ^drop;", 7);
        Check.faultAtMark("word a = drop drop drop drop drop ^swap;", 7);
        Check.faultAtMark("word a = drop drop drop drop drop drop ^if then;", 7);
        Check.faultAtMark("word a = drop drop drop drop; word b = drop drop ; word c = b a; word d = b drop ^a;", 7);
        Check.of("word a = 1 1 1 1 1 1 1 1 1 1 1 1;");
        Check.faultAtMark("word a = 1 1 1 1 1 1 1 1 1 1 1 1 ^1;", 7);
        Check.faultAtMark("word a = dup dup dup dup dup dup dup dup dup dup dup dup ^over;", 7);
        Check.of("word a = 1 1 drop drop; word b = 1 1 1 1 1 1 1 1 1 1 a;");
        Check.faultAtMark("word a = 1 1 drop drop; word b = 1 1 1 1 1 1 1 1 1 1 1 ^a;", 7);
        // 1 + 9 * (1 + 9 * (1 + 9 * 2)) = 1,549 and 1 + 9 * (1 + 7 * 7) = 451 steps.
        String most = "word a = times 9 times 9 times 9 neg neg next next next times 9 times 7 neg neg neg neg neg neg neg next next ";
        Check.due("2,000 steps", Check.of(most + ";").word(0, 5), 2000);
        Check.faultAtMark(most + "neg ^;", 7);
        Check.faultAtMark(most + "; word b = ^;".replace("^", "a ^"), 7);
        Check.faultAtMark(most + "; word b = push a^;", 7);
    }

    private static void formulas() {
        Check.faultAtMark("takes ^;", 2);
        Check.faultAtMark("takes 1 ^2;", 2);
        Check.faultAtMark("takes 1 +^;", 2);
        Check.faultAtMark("takes ^-1;", 2);
        Check.faultAtMark("takes 1 < 2 ^< 3;", 2);
        Check.faultAtMark("takes 1 + ^not 2;", 2);
        Check.faultAtMark("takes ^foo;", 2);
        Check.faultAtMark("takes ^dup;", 2);
        Check.faultAtMark("takes (1^;", 2);
        Check.faultAtMark("takes 1^);", 2);
        Check.faultAtMark("takes ()^;".replace("()^", "(^)"), 2);
        Check.faultAtMark("takes 1^", 2);
        Check.faultAtMark("takes ^12345;", 1);
        Check.of("takes (((((((1)))))));");
        Check.faultAtMark("takes (((((((^(1))))))));", 2);
        Check.of("takes not not not not not not not 1;");
        Check.faultAtMark("takes not not not not not not not ^not 1;", 2);
        Check.faultAtMark("takes not (not (not (not ^(1))));".replace("not ^(1)", "(^not 1)"), 2);
        Check.of("takes not (not (not (not 1)));");
        String thirty = "1" + "+1".repeat(29);
        Check.due("30 units", Check.of("takes " + thirty + ";").about(11), 30);
        Check.faultAtMark("takes " + thirty + "+^1;", 2);
        Check.due("( e ) is a unit", Check.of("takes (1" + "+1".repeat(28) + ");").about(11), 30);
        Check.faultAtMark("takes (1" + "+1".repeat(28) + "+^1);", 2);
        Check.due("no units", Check.of("word a = dup;").about(11), 0);
    }
}
