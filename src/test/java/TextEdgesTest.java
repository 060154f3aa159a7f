import java.util.Arrays;

/**
 * Terms and promises 1 to 5, at the edges: of each bound that a text has, the last that is taken and the first that is not.
 * In a text that is marked the FAULT stands where the ^ is.
 */
public final class TextEdgesTest {
    private static final String[] SIGNS = {";", "(", ")", "<", ">", "=", "+", "-", "*", "/", "%"};
    private static final String[] EVERY_SORT = {"dup", "7", "z", "if", "else", "then", "times 2", "next", "times 77", "nix"};

    public static void main(String[] args) {
        newObject();
        tapeIsFull();
        tapeIsCut();
        refusedTape();
        codesInARow();
        everyByteAlone();
        everyByteBehindAWord();
        everyByteBehindANumber();
        longTokens();
        blanks();
        longestText();
        manyWords();
        manyItems();
        manyItemsInAll();
        withinOthers();
        names();
        numbers();
        linesOnce();
        manyUnits();
        formulasWithinOthers();
        formulasCutShort();
        Check.done();
    }

    private static String blanks(int n) {
        return " ".repeat(n);
    }

    /** Promise 1. */
    private static void newObject() {
        StackWords x = new StackWords();
        for (int what = 0; what <= 13; what++) {
            Check.due("new about " + what, x.about(what), 0);
        }
        Check.due("no fault yet", x.fault(0), 0);
        Check.due("no place yet", x.fault(1), -1);
        Check.due("no word", x.word(0, 0), -1);
        Check.due("no cell", x.cell(0), 0);
        Check.due("none put by", x.put(0), 0);
        Check.due("nothing lies there", x.lies(0), -2);
        Check.due("nothing to undo", x.undo(), false);
        Check.due("nothing to redo", x.redo(), false);
        for (int box = 0; box < 3; box++) {
            Check.due("nothing in box " + box, x.back(box), -1);
        }
        Check.due("takes is not told", x.takes(2, 18), 3);
        StackWords read = new StackWords();
        Check.due("the empty text is a code", read.code(), 0);
        Check.samePrint("an empty code is what a new object has", Print.of(read), Print.of(new StackWords()));
    }

    /** Promise 2: 'NONE, and nothing comes, if there would be more than 1,600.' */
    private static void tapeIsFull() {
        int blank = 0x20202020;
        StackWords x = new StackWords();
        for (int n = 1; n <= 79; n++) {
            Check.due("feed " + n, x.feed(blank, blank, blank, blank, blank), 20 * n);
        }
        Check.due("1,580 and 20 more", x.feed(blank, blank, blank, blank, 0x20202023), 1600);
        Check.due("1,600 and 20 more", x.feed(0, 0, 0, 0, 0), -1);
        Check.due("as many as there were", x.about(10), 1600);
        Check.due("the last byte is read", x.code(), -1);
        Check.due("fault", x.fault(0), 1);
        Check.due("the last place", x.fault(1), 1599);
        x.end(1581);
        Check.due("1,581 and 20 more", x.feed(0, 0, 0, 0, 0), -1);
        Check.due("as many as there were", x.about(10), 1581);
        Check.due("nothing came: blanks alone", x.code(), 0);
        StackWords y = Made.full();
        y.end(1580);
        Check.due("from 1,580 again", y.feed(blank, blank, blank, blank, blank), 1600);
        Check.leavesAll("feed on a full tape", Made::full, z -> z.feed(1, 2, 3, 4, 5), -1);
    }

    /** Promise 3: what is behind the end is gone, and the next bytes come there. */
    private static void tapeIsCut() {
        StackWords x = new StackWords();
        Check.due("end(0) of none", x.end(0), 0);
        Check.due("end(1) of none", x.end(1), -1);
        Check.tape(x, "word a = dup;########".getBytes());
        Check.due("end(13)", x.end(13), 13);
        Check.due("end(14) then", x.end(14), -1);
        // " word b = nip;      "
        Check.due("feed", x.feed(0x20776F72, 0x64206220, 0x3D206E69, 0x703B2020, 0x20202020), 33);
        Check.due("both", x.code(), 2);
        Check.due("the second", x.item(1, 0, 1), 5);
        int[] never = {Integer.MIN_VALUE, -2, -1, 21, 22, 1600, 1601, Integer.MAX_VALUE};
        for (int n : never) {
            Check.leavesAll("end(" + n + ")", () -> {
                StackWords y = new StackWords();
                y.feed(0x776F7264, 0x20612023, 0, 0, 0);
                return y;
            }, y -> y.end(n), -1);
        }
        StackWords z = new StackWords();
        z.feed(0, 0, 0, 0, 0);
        Check.due("end(20) of 20", z.end(20), 20);
        Check.due("end(19)", z.end(19), 19);
        Check.due("end(20) then", z.end(20), -1);
        Check.due("end(0)", z.end(0), 0);
        Check.due("a code of nothing", z.code(), 0);
    }

    /** Promises 4, 5: 'NONE: a FAULT (all stays)'. */
    private static void refusedTape() {
        StackWords bad = Made.rich();
        Check.tape(bad, "word q = dup".getBytes());
        Check.due("no end", bad.code(), -1);
        Check.due("fault", bad.fault(0), 2);
        Check.due("place", bad.fault(1), 12);
        Check.due("the tape stays", bad.about(10), 12);
        StackWords good = Made.rich();
        Check.tape(good, "word q = dup".getBytes());
        Check.samePrint("all but the fault stays", Print.withoutFault(bad), Print.withoutFault(good));
        StackWords again = Made.rich();
        Check.tape(again, "word q = dup".getBytes());
        again.code();
        Check.due("what came is still there", again.feed(0x3B202020, 0x20202020, 0x20202020, 0x20202020, 0x20202020), 32);
        Check.due("and can be gone on with", again.code(), 1);
        Check.due("no fault", again.fault(0), 0);
        Check.due("no place", again.fault(1), -1);
        Check.due("the time stays", again.about(9), 20);
        Check.samePrint("all else is as in a new object", Print.of(again), Print.of(later20("word q = dup;")));
        StackWords empty = Made.rich();
        empty.end(0);
        Check.due("a code of nothing", empty.code(), 0);
        Check.samePrint("nothing is left", Print.of(empty), Print.of(later20("")));
        int[] never = {Integer.MIN_VALUE, -1, 2, 3, Integer.MAX_VALUE};
        for (int what : never) {
            Check.leavesAll("fault(" + what + ")", Made::rich, y -> y.fault(what), -1);
        }
        StackWords kept = new StackWords();
        Check.code(kept, "word a = ; #");
        kept.feed(0, 0, 0, 0, 0);
        kept.end(3);
        kept.lay(1);
        Check.due("of the latest code()", kept.fault(0), 1);
        Check.due("of the latest code()", kept.fault(1), 11);
        Check.due("another", kept.code(), -1);
        Check.due("of the latest code()", kept.fault(0), 2);
        Check.due("of the latest code()", kept.fault(1), 0);
    }

    /** Nothing of a CODE ahead, be it taken or refused (with whichever FAULT), is left in the next one. */
    private static void codesInARow() {
        String good = "word a = dup if neg else then; word b = times 2 a next;";
        String told = "word q = 1 2 3 4 5 drop drop drop drop drop; word r = q q; takes 5 + form * 2; flips 77; draw 88;";
        String[] ahead = {told, "word a = dup if #", "word a = dup if times 2 if 1 if", "takes (1 + (2 + not", "takes not not not not not not not not 1;", "flips 50; draw 50; takes 7 ; ;",
            "word a = ; word b = ; word a = ;", "word a = times 0", "word a = 1 times 3 1 nix", "word a = 1 1 if 1 then", "word a = push 1 if times 2 push pop pop pop",
            "word a = push push;", "word a=;word b=;word c=;word d=;word f=;word g=;word h", "word a = " + "1 drop ".repeat(10) + "if", "takes 1" + "+1".repeat(30), "draw 1000;"};
        for (String one : ahead) {
            for (String other : new String[] {told, "", one}) {
                StackWords x = new StackWords();
                Check.code(x, other);
                Check.code(x, one);
                Check.due("a good one behind " + one, Check.code(x, good), 2);
                Check.samePrint("as if it had been the first, behind " + one, Print.of(x), Print.of(Check.of(good)));
            }
        }
    }

    private static StackWords later20(String text) {
        StackWords x = new StackWords();
        x.later(20);
        Check.code(x, text);
        return x;
    }

    private static boolean isLetter(int b) {
        return b >= 97 && b <= 122;
    }

    private static boolean isNumeral(int b) {
        return b >= 48 && b <= 57;
    }

    private static boolean isBlank(int b) {
        return b == 32 || b == 10;
    }

    private static boolean isSign(int b) {
        return Arrays.asList(SIGNS).contains(String.valueOf((char) b));
    }

    private static void everyByteAlone() {
        int signs = 0;
        for (int b = 0; b <= 255; b++) {
            String text = String.valueOf((char) b);
            if (isBlank(b)) {
                Check.of(text);
            } else {
                boolean token = isLetter(b) || isNumeral(b) || isSign(b);
                Check.fault(text, token ? 2 : 1, 0);
                Check.fault(blanks(3) + text, token ? 2 : 1, 3);
            }
            signs += isSign(b) ? 1 : 0;
        }
        Check.due("signs", signs, 11);
    }

    private static void everyByteBehindAWord() {
        for (int b = 0; b <= 255; b++) {
            String text = "word a = dup" + (char) b + " drop;";
            if (isLetter(b)) {
                Check.fault(text, 5, 9);
            } else if (isBlank(b) || isNumeral(b)) {
                Check.of(text);
            } else if (b == ';') {
                Check.fault(text, 2, 14);
            } else {
                Check.fault(text, isSign(b) ? 2 : 1, 12);
            }
        }
    }

    private static void everyByteBehindANumber() {
        for (int b = 0; b <= 255; b++) {
            String text = "word a = 12" + (char) b + " drop;";
            if (isLetter(b)) {
                Check.fault(text, 1, 9);
            } else if (isBlank(b) || isNumeral(b)) {
                Check.of(text);
            } else if (b == ';') {
                Check.fault(text, 2, 13);
            } else {
                Check.fault(text, isSign(b) ? 2 : 1, 11);
            }
        }
    }

    /** 'words (a .. z, 8 at most), N (1 to 4 digits) .. each is as long as can be; no letter directly behind an N'. */
    private static void longTokens() {
        Check.of("word a = ; word abcdefgh = ; word z = abcdefgh a;");
        Check.faultAtMark("word abcdefgh = ; word i = ; word z = ^abcdefghi;", 1);
        Check.faultAtMark("word ^abcdefghi = ;", 1);
        Check.faultAtMark("word ^" + "a".repeat(100) + " = ;", 1);
        Check.faultAtMark("^wordwordw", 1);
        Check.faultAtMark("^wordword", 2);
        Check.faultAtMark("word a = ^dupdup;", 5);
        Check.faultAtMark("word a = ^dupdupdup;", 1);
        StackWords x = Check.of("word a = 0 00 000 0000 9 09 009 0009 9999;");
        int[] numbers = {0, 0, 0, 0, 9, 9, 9, 9, 9999};
        for (int i = 0; i < numbers.length; i++) {
            Check.due("number " + i, x.item(0, i, 1), numbers[i]);
        }
        Check.faultAtMark("word a = ^00000;", 1);
        Check.faultAtMark("word a = ^10000;", 1);
        Check.faultAtMark("word a = ^" + "9".repeat(40) + ";", 1);
        Check.faultAtMark("flips ^00001;", 1);
        Check.faultAtMark("word a = ^1z;", 1);
        Check.faultAtMark("word a = ^1234z;", 1);
        Check.faultAtMark("word a = dup ^1next;", 1);
        Check.of("word a = dup1;");
        Check.of("takes 1 or 2;");
        Check.faultAtMark("takes ^1or 2;", 1);
        Check.of("takes form+1;");
        Check.of("takes kind-1<form*2;");
        Check.of("takes(1)or(2);");
        // A number that ends where the text ends has no letter behind it: what is behind the end is not read.
        Check.faultAtMark("flips 100^", 2);
        Check.faultAtMark("word a = 1234^", 2);
    }

    /** 'blanks (32, 10) part them or not'. */
    private static void blanks() {
        Check.due("no more than must be", Check.of("word a=dup if2 else3 then;").about(1), 6);
        Check.faultAtMark("word a=dup if2 else^3then;", 1);
        Check.due("many", Check.of(" \n word\n\na \n =\n1 \n2 \n;\n \n").about(1), 2);
        Check.faultAtMark("^worda=;", 2);
        Check.faultAtMark("word\n^word a=;", 2);
        Check.of("flips\n100\n;draw\n999\n;takes\n1\n;");
        Check.of("flips100;draw999;takes1;");
        Check.of("word a=times9 next;");
        Check.faultAtMark("word a=times^9next;", 1);
    }

    /** 'A CODE is a text of at most 1,600 bytes'; 'the end: the text's length'. */
    private static void longestText() {
        String line = "word a = dup";
        Check.due("the last byte ends it", Check.of(line + blanks(1587) + ";").about(0), 1);
        Check.fault(line + blanks(1588), 2, 1600);
        Check.fault(line + blanks(1587) + "#", 1, 1599);
        Check.fault(line + blanks(1587) + "z", 5, 1599);
        Check.fault(line + blanks(1580) + "abcdefgh", 5, 1592);
        Check.fault(line + blanks(1579) + "abcdefghi", 1, 1591);
        Check.fault(line + blanks(1584) + "1234", 2, 1600);
        Check.of(blanks(1600));
        Check.of("\n".repeat(1600));
        Check.fault("a".repeat(1600), 1, 0);
        Check.fault("1".repeat(1600), 1, 0);
        Check.fault(";".repeat(1600), 2, 0);
        Check.fault("takes " + "(".repeat(1594), 2, 13);
        Check.fault("takes " + "not ".repeat(398), 2, 34);
    }

    /** 'At most 6 WORDS'; 'a WORD too many .. at the line's first word'. */
    private static void manyWords() {
        String five = "word a=;word b=;word c=;word d=;word f=;";
        Check.due("five", Check.of(five).about(0), 5);
        Check.due("six", Check.of(five + "word g=;").about(0), 6);
        Check.due("other lines behind six", Check.of(five + "word g=;takes 1;flips 2;draw 3;").about(0), 6);
        Check.faultAtMark(five + "word g=;^word h=;", 2);
        Check.faultAtMark(five + "word g=;^word", 2);
        Check.faultAtMark(five + "word g=;^word #", 2);
        Check.faultAtMark(five + "word g=;^word a=;", 2);
        Check.faultAtMark(five + "word g=;takes 1; ^word h=;", 2);
        Check.faultAtMark(five + "word ^a=;", 3);
    }

    /** 'of 20 ITEMS at most each'; 'an ITEM too many .. at its first TOKEN'. */
    private static void manyItems() {
        String begin = "word z = ; word a = ";
        String nineteen = "1 drop ".repeat(9) + "1 ";
        String twenty = "1 drop ".repeat(10);
        Check.due("nineteen", Check.of(begin + nineteen + ";").word(1, 0), 19);
        String[] twentieth = {"dup", "7", "z"};
        for (String item : twentieth) {
            Check.due("twenty", Check.of(begin + nineteen + item + ";").word(1, 0), 20);
        }
        for (String item : EVERY_SORT) {
            Check.faultAtMark(begin + twenty + "^" + item + ";", 2);
        }
        Check.faultAtMark(begin + twenty + "^pop;", 2);
        Check.faultAtMark(begin + twenty + "^#;", 1);
        Check.faultAtMark(begin + twenty + "^12345;", 1);
        Check.due("else and then count", Check.of(begin + "1 drop ".repeat(8) + "1 if else then;").word(1, 0), 20);
        Check.faultAtMark(begin + "1 drop ".repeat(8) + "1 if else 1 ^then;", 2);
        Check.faultAtMark(begin + "1 drop ".repeat(8) + "1 1 if else ^then;", 2);
        // The number behind times is no ITEM: so ten times with ten next are twenty.
        Check.due("times and next", Check.of(begin + "times 3 next ".repeat(10) + ";").word(1, 0), 20);
        Check.faultAtMark(begin + "times 3 next ".repeat(10) + "^times 3 next;", 2);
        Check.faultAtMark(begin + nineteen + "times 3 ^next;", 2);
        Check.faultAtMark(begin + nineteen + "if ^1;", 2);
        Check.due("none", Check.of("word a = ;").word(0, 0), 0);
    }

    /** '60 in all'. */
    private static void manyItemsInAll() {
        String twenty = "1 drop ".repeat(10);
        String fifteen = "neg ".repeat(15);
        String three = "word a=" + twenty + ";word b=" + twenty + ";word c=";
        Check.due("59", Check.of(three + "1 drop ".repeat(9) + "1;").about(1), 59);
        Check.due("60", Check.of(three + twenty + ";").about(1), 60);
        Check.due("60 and a word of none", Check.of(three + twenty + ";word d=;").about(1), 60);
        for (String item : EVERY_SORT) {
            Check.faultAtMark(three + twenty + ";word d=^" + item.replace('z', 'a') + ";", 2);
        }
        String four = "word a=" + fifteen + ";word b=" + fifteen + ";word c=" + fifteen + ";word d=";
        Check.due("four of fifteen", Check.of(four + fifteen + ";").about(1), 60);
        Check.faultAtMark(four + fifteen + "^neg;", 2);
        Check.faultAtMark(four + fifteen + "; word f = ; word g = ^1;", 2);
        Check.due("one more in the last", Check.of(four + "neg ".repeat(14) + "; word f = 1;").about(1), 60);
        // A CODE that is refused leaves no ITEMS that would count in the next one.
        StackWords x = new StackWords();
        for (int n = 0; n < 5; n++) {
            Check.due("refused", Check.code(x, three + twenty + ";word d=dup;"), -1);
            Check.due("taken", Check.code(x, three + twenty + ";"), 3);
        }
    }

    private static String nestedItems(int bits, int deep) {
        StringBuilder b = new StringBuilder();
        for (int level = 0; level < deep; level++) {
            b.append(level == 4 ? "^" : "").append((bits >> level & 1) == 0 ? "if 1 " : "times 2 ");
        }
        for (int level = deep - 1; level >= 0; level--) {
            b.append((bits >> level & 1) == 0 ? "drop 1 then " : "next ");
        }
        return b.toString();
    }

    /** 'one if or times within 3 others at most'; 'one within 4 others: at its first TOKEN'. */
    private static void withinOthers() {
        String begin = "word a = ";
        for (int bits = 0; bits < 16; bits++) {
            StackWords x = new StackWords();
            Check.code(x, begin + mixed(bits) + ";");
            Check.due("four deep " + bits, x.fault(0), 0);
        }
        for (int bits = 0; bits < 32; bits++) {
            Check.faultAtMark(begin + nestedItems(bits, 5) + ";", 2);
        }
        String four = "times 1 times 1 times 1 times 1 next next next next ";
        Check.of(begin + four + four + ";");
        Check.faultAtMark(begin + four + "times 1 times 1 times 1 times 1 ^times 1 next next next next next;", 2);
        Check.faultAtMark(begin + "1 if else 1 if else 1 if else 1 if else ^if", 2);
        Check.of(begin + "1 if else 1 if else 1 if else 1 if else then then then then;");
        Check.of(begin + "times 1 times 1 times 1 1 if else then next next next;");
        Check.faultAtMark(begin + "times 1 times 1 times 1 times 1 ^times 77 #", 2);
        // Within five others it NEEDS too many as well, but the least FAULT at one place is told.
        Check.faultAtMark(begin + "drop drop drop drop drop drop times 1 times 1 times 1 times 1 ^if", 2);
        Check.faultAtMark(begin + "drop drop drop drop drop drop times 1 times 1 times 1 ^if", 7);
    }

    private static String mixed(int bits) {
        StringBuilder b = new StringBuilder();
        for (int level = 0; level < 4; level++) {
            b.append((bits >> level & 1) == 0 ? "1 if " : "times 2 ");
        }
        for (int level = 3; level >= 0; level--) {
            b.append((bits >> level & 1) == 0 ? "then " : "next ");
        }
        return b.toString();
    }

    /** 'Words that stand for themselves here are no NAMES'; FAULTS 3 and 5. */
    private static void names() {
        String[] own = {"dup", "drop", "swap", "over", "rot", "nip", "tuck", "push", "pop", "add", "sub", "mul", "neg", "less", "same",
            "if", "else", "then", "times", "next", "word", "takes", "flips", "draw", "or", "and", "not", "form", "kind"};
        for (String word : own) {
            Check.faultAtMark("word ^" + word + "=;", 2);
            Check.of("word " + word + "x=;word x" + word + "=" + word + "x;");
            Check.of("word " + word.substring(1) + "=;");
        }
        String[] nowhereInAWord = {"word", "takes", "flips", "draw", "or", "and", "not", "form", "kind"};
        for (String word : nowhereInAWord) {
            Check.faultAtMark("word a = ^" + word + ";", 2);
        }
        for (String sign : SIGNS) {
            if (!sign.equals(";")) {
                Check.faultAtMark("word a = ^" + sign + ";", 2);
            }
            Check.faultAtMark("word ^" + sign + " = ;", 2);
            if (!sign.equals("=")) {
                Check.faultAtMark("word a ^" + sign + ";", 2);
            }
        }
        Check.faultAtMark("word a=;word ^a=;", 3);
        Check.faultAtMark("word a=;word b=;word c=;word d=;word f=;word ^f=;", 3);
        Check.faultAtMark("word a=;word ^a", 3);
        for (char letter = 'a'; letter <= 'z'; letter++) {
            Check.of("word x=;word xx=;word xxx=;word xxxx=;word xxxxx=;word xxxxxxxx=x xx xxx xxxx xxxxx;".replace('x', letter));
        }
        String[][] close = {{"ab", "ba"}, {"az", "b"}, {"a", "ba"}, {"z", "aa"}, {"zz", "aaa"}, {"abcdefgh", "abcdefgi"}, {"abcdefgh", "bbcdefgh"}, {"abcdefg", "abcdefgh"}};
        for (String[] pair : close) {
            Check.due("other names", Check.of("word " + pair[0] + "=;word " + pair[1] + "=" + pair[0] + ";").calls(1), 1);
            Check.faultAtMark("word " + pair[0] + "=;word c=^" + pair[1] + ";", 5);
        }
        Check.faultAtMark("word a = ^a;", 5);
        Check.faultAtMark("word a = ^b;word b=;", 5);
        Check.faultAtMark("word a=;word b = a ^c a;word c=;", 5);
        StackWords all = Check.of("word a=;word b=a;word c=a b;word d=a b c;word f=a b c d;word g=a b c d f;");
        Check.due("all told ahead", all.calls(5), 31);
        StackWords again = Check.of("word a=;word b=;");
        Check.due("names of the code ahead are gone", Check.code(again, "word c=a;"), -1);
        Check.due("fault", again.fault(0), 5);
        Check.due("they can be told again", Check.code(again, "word b=;word a=;"), 2);
    }

    /** FAULT 4: 'a number that can't be'. */
    private static void numbers() {
        for (int n = 0; n <= 11; n++) {
            String text = "word a = times ^" + n + " next;";
            if (n >= 1 && n <= 9) {
                Check.due("times " + n, Check.of(text.replace("^", "")).item(0, 0, 1), n);
            } else {
                Check.faultAtMark(text, 4);
            }
        }
        Check.faultAtMark("word a = times ^9999 next;", 4);
        Check.faultAtMark("word a = times ^0000 next;", 4);
        Check.due("times 0009", Check.of("word a = times 0009 next;").item(0, 0, 1), 9);
        Check.faultAtMark("word a = times ^;", 2);
        Check.faultAtMark("word a = times ^dup next;", 2);
        Check.faultAtMark("word a = times^", 2);
        Check.faultAtMark("word a = times ^#", 1);
        Check.due("flips 0", Check.of("flips 0;").about(13), 0);
        Check.due("flips 100", Check.of("flips 100;").about(13), 100);
        Check.due("flips 0100", Check.of("flips 0100;").about(13), 100);
        Check.faultAtMark("flips ^101;", 4);
        Check.faultAtMark("flips ^9999;", 4);
        Check.due("draw 0", Check.of("draw 0;").about(5), 0);
        Check.due("draw 999", Check.of("draw 999;").about(5), 999);
        Check.faultAtMark("draw ^1000;", 4);
        Check.faultAtMark("draw ^9999;", 4);
        Check.due("flips, not told", Check.of("draw 3;").about(13), 0);
        Check.due("draw, not told", Check.of("flips 3;").about(5), 0);
        String[] keys = {"flips", "draw"};
        for (String key : keys) {
            Check.faultAtMark(key + "^", 2);
            Check.faultAtMark(key + " ^;", 2);
            Check.faultAtMark(key + " ^(1);", 2);
            Check.faultAtMark(key + " ^-1;", 2);
            Check.faultAtMark(key + " ^a;", 2);
            Check.faultAtMark(key + " ^12345;", 1);
            Check.faultAtMark(key + " 1^", 2);
            Check.faultAtMark(key + " 1 ^2;", 2);
            Check.faultAtMark(key + " 1 ^+ 2;", 2);
            Check.faultAtMark(key + " ^1000", 4);
        }
    }

    /** 'takes, flips, draw a second time: at the line's first word'. */
    private static void linesOnce() {
        String[] lines = {"takes 1;", "flips 1;", "draw 1;"};
        for (String one : lines) {
            for (String other : lines) {
                String both = one + "word a=;" + "^" + other;
                if (one.equals(other)) {
                    Check.faultAtMark(both, 2);
                    Check.faultAtMark(both.replace("1", "12345").replaceFirst("12345", "1"), 2);
                } else {
                    Check.of(both.replace("^", ""));
                }
            }
        }
        StackWords x = Check.of("takes 7;flips 7;draw 7;");
        Check.due("once in each code", Check.code(x, "takes 8;flips 8;draw 8;"), 0);
        Check.due("takes", x.takes(0, 0), 8);
        Check.due("a second time", Check.code(x, "takes 9;flips 9;draw 9;flips 9;"), -1);
        Check.due("all stays", x.takes(0, 0), 8);
        Check.due("all stays", x.about(13), 8);
        Check.due("all stays", x.about(5), 8);
        Check.due("once again", Check.code(x, "takes 9;flips 9;draw 9;"), 0);
        Check.due("takes", x.takes(0, 0), 9);
    }

    /** '30 in e'; 'a unit too many .. at its first TOKEN'. */
    private static void manyUnits() {
        String twentyNine = "1" + "+1".repeat(28);
        Check.due("29", Check.of("takes " + twentyNine + ";").about(11), 29);
        String[] units = {"1", "form", "kind"};
        for (String unit : units) {
            Check.due("30", Check.of("takes " + twentyNine + "+" + unit + ";").about(11), 30);
            Check.faultAtMark("takes " + twentyNine + "+1+^" + unit + ";", 2);
            Check.faultAtMark("takes " + twentyNine + "+(^" + unit + ");", 2);
        }
        Check.faultAtMark("takes " + twentyNine + "+1+^(1);", 2);
        Check.faultAtMark("takes " + twentyNine + "+1 or not ^1;", 2);
        Check.faultAtMark("takes " + twentyNine + "+1+^12345;", 1);
        Check.faultAtMark("takes " + twentyNine + "+1+^#;", 1);
        Check.faultAtMark("takes " + twentyNine + "+1+^;", 2);
        Check.due("28 in a unit", Check.of("takes (" + "1" + "+1".repeat(27) + ")+1;").about(11), 30);
        Check.due("one", Check.of("takes form;").about(11), 1);
        Check.due("not is none", Check.of("takes not not 1;").about(11), 1);
        String[] operators = {" or ", " and ", "<", ">", "=", "+", "-", "*", "/", "%"};
        for (String operator : operators) {
            Check.due("two", Check.of("takes 1" + operator + "2;").about(11), 2);
            if (operator.length() > 1 || !"<>=".contains(operator)) {
                String many = "takes 1" + (operator + "1").repeat(29);
                Check.due("30 by " + operator, Check.of(many + ";").about(11), 30);
                Check.faultAtMark(many + operator + "^1;", 2);
            }
        }
        StackWords again = new StackWords();
        for (int n = 1; n <= 20; n++) {
            Check.due("30 again and again", Check.code(again, "takes " + n + "+1".repeat(29) + ";"), 0);
            Check.due("each for itself", again.takes(0, 0), n + 29);
        }
        StackWords x = Check.of("takes " + twentyNine + "+1;");
        Check.due("31", Check.code(x, "takes " + twentyNine + "+1+1;"), -1);
        Check.due("as they were", x.about(11), 30);
        Check.due("counted anew", Check.code(x, "takes " + twentyNine + ";"), 0);
        Check.due("29", x.about(11), 29);
    }

    /** 'a unit ( e ), or a one behind not, within 6 others at most'; 'what is within 7 others: at its first TOKEN, or the not'. */
    private static void formulasWithinOthers() {
        for (int bits = 0; bits < 128; bits++) {
            Check.of("takes " + nestedUnits(bits, 7) + ";");
        }
        for (int bits = 0; bits < 256; bits++) {
            Check.faultAtMark("takes " + nestedUnits(bits, 8) + ";", 2);
        }
        String seven = "(((((((1)))))))";
        Check.of("takes " + seven + " + " + seven + ";");
        Check.faultAtMark("takes " + seven + " + (((((((^(1))))))));", 2);
        Check.of("takes not not not not not not not 1 and not not not not not not not 1;");
        String nots = "not ".repeat(7);
        Check.due("30 units, each behind seven", Check.of("takes " + nots + "0" + (" and " + nots + "0").repeat(29) + ";").takes(0, 0), 1);
        Check.due("30 units, each behind seven", Check.of("takes " + nots + "0" + (" and " + nots + "0").repeat(28) + " and " + nots + "1;").takes(0, 0), 0);
        Check.of("takes 1 + (((((((form + kind * 2)))))));");
        Check.faultAtMark("takes (((((((1 + ^(", 2);
        Check.faultAtMark("takes (((((((1 and ^not", 2);
        Check.faultAtMark("takes (((((((1 + ^not", 2);
    }

    private static String nestedUnits(int bits, int deep) {
        StringBuilder b = new StringBuilder();
        for (int level = 0; level < deep; level++) {
            b.append(level == 7 ? "^" : "").append((bits >> level & 1) == 0 ? "(" : "not ");
        }
        b.append("1");
        for (int level = deep - 1; level >= 0; level--) {
            b.append((bits >> level & 1) == 0 ? ")" : "");
        }
        return b.toString();
    }

    /** FAULT 2: what a formula can't have where it stands, its end among that. */
    private static void formulasCutShort() {
        String whole = "takes not 1 < form + kind * ( 2 or 3 and 4 ) - 5 / 6 % 7 ;";
        Check.of(whole);
        String[] tokens = whole.split(" ");
        StringBuilder ahead = new StringBuilder();
        for (String token : tokens) {
            if (ahead.length() > 0) {
                Check.fault(ahead.toString(), 2, ahead.length());
                Check.fault(ahead + "#", 1, ahead.length());
                Check.fault(ahead + "takes 1;", 2, ahead.length());
                Check.fault(ahead + "dup", 2, ahead.length());
            }
            ahead.append(token).append(' ');
        }
        Check.faultAtMark("takes ^;", 2);
        Check.faultAtMark("takes ( ^);", 2);
        Check.faultAtMark("takes 1 ^);", 2);
        Check.faultAtMark("takes (1 ^;", 2);
        Check.faultAtMark("takes 1 = 2 ^= 3;", 2);
        Check.faultAtMark("takes 1 < 2 ^> 3;", 2);
        Check.of("takes (1 < 2) > 3;");
        Check.of("takes 1 < 2 or 3 < 4 and 5 = 6;");
        Check.faultAtMark("takes 1 + ^+ 2;", 2);
        Check.faultAtMark("takes ^or 2;", 2);
        Check.faultAtMark("takes 1 or ^and 2;", 2);
        Check.faultAtMark("takes 1 * ^not 2;", 2);
        Check.faultAtMark("takes 1 < ^not 2;", 2);
        Check.faultAtMark("takes 1 ^not 2;", 2);
        Check.faultAtMark("takes 1 ^(2);", 2);
        Check.faultAtMark("takes (1) ^2;", 2);
    }
}
