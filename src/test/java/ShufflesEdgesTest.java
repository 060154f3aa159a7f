import java.util.HashMap;
import java.util.Map;

/** Promises 21 to 24 and 39, at the edges: SHUFFLE TASKS that can't be, the 5 cells there are at most, runs, what lies there. */
public final class ShufflesEdgesTest {
    private static final int LEAST = Integer.MIN_VALUE;
    private static final int MOST = Integer.MAX_VALUE;
    /** For prices of all KINDS in which a way through 5 cells is cheaper than any through 4. */
    private static final String THROUGH_FIVE = "takes (kind = 0) + (kind = 1) * 9 + (kind > 1 and kind < 5) * 99 + (kind = 6) * 2;";
    /** In which a way through 6 cells would be cheaper than any through 5. */
    private static final String THROUGH_SIX = "takes (kind = 0 or kind = 6) * 2 + (kind = 1) * 30 + (kind = 2) * 99 + (kind = 3) + (kind = 4) * 9;";

    public static void main(String[] args) {
        shuffledDigits();
        shuffledCells();
        shuffledRefused();
        everyRow();
        everyShortest();
        tasksThatCannotBe();
        cheapestThroughFive();
        cheapestByLongWays();
        cheapestOfLikeOnes();
        whatLies();
        tidyRuns();
        tidyBounds();
        Check.done();
    }

    /** Promise 23: 'told by digits 1 .. 7 .. the first one first; 9,999,999 at most; 0: none'. */
    private static void shuffledDigits() {
        StackWords x = new StackWords();
        int[] due = {-1, 1233, 12, 132, 1232, 231, 13, 1323, -1, -1};
        for (int digit = 1; digit <= 9; digit++) {
            Check.due("digit " + digit, x.shuffled(3, digit), due[digit]);
            Check.due("behind another " + digit, x.shuffled(3, 30 + digit) == -1, digit > 7);
            Check.due("ahead of another " + digit, x.shuffled(3, 10 * digit + 3) == -1, digit > 7);
        }
        int[] cells = {0, 1, 12, 123};
        for (int n = 0; n <= 3; n++) {
            Check.due("none", x.shuffled(n, 0), cells[n]);
        }
        int[] withNought = {10, 20, 70, 303, 3003, 3000000, 3333330, 3033333};
        for (int row : withNought) {
            Check.due("a 0 in " + row, x.shuffled(3, row), -1);
        }
        Check.due("the first one first", x.shuffled(2, 23), -1);
        Check.due("the first one first", x.shuffled(2, 32), 2);
        Check.due("seven", x.shuffled(2, 3333333), 21);
        Check.due("seven from 7 on", x.shuffled(3, 7727272), 1332);
        Check.due("eight", x.shuffled(2, 33333333), -1);
        Check.due("9,999,999", x.shuffled(2, 9999999), -1);
        Check.due("10,000,000", x.shuffled(2, 10000000), -1);
        Check.due("11,111,111", x.shuffled(2, 11111111), -1);
    }

    /** Promise 23: 'there are ever more than 5, at the end more than 4', 'one takes what is not there'. */
    private static void shuffledCells() {
        StackWords x = new StackWords();
        Check.due("4 at the end", x.shuffled(3, 1), 1233);
        Check.due("5 at the end", x.shuffled(3, 11), -1);
        Check.due("5 between", x.shuffled(3, 112), 1233);
        Check.due("6 between", x.shuffled(3, 11122), -1);
        Check.due("4 of one", x.shuffled(1, 111), 1111);
        Check.due("5 of one", x.shuffled(1, 1111), -1);
        Check.due("5 between, of one", x.shuffled(1, 11112), 1111);
        Check.due("6 between, of one", x.shuffled(1, 1111122), -1);
        Check.due("5 between, of the greatest", x.shuffled(3, 6611112), 3333);
        Check.due("5 at the end, of the greatest", x.shuffled(3, 661111), -1);
        int[] more = {1, 4, 7};
        for (int digit : more) {
            Check.due("5 between by " + digit, x.shuffled(3, 100 + 10 * digit + 2) != -1, true);
            Check.due("6 between by " + digit, x.shuffled(3, 11000 + 100 * digit + 22), -1);
        }
        int[] same = {3, 5, 6};
        for (int digit : same) {
            Check.due("5 all the while by " + digit, x.shuffled(3, 1100 + 10 * digit + 2) != -1, true);
        }
        int[] off = {0, 1, 1, 2, 2, 3, 2, 2};
        for (int digit = 1; digit <= 7; digit++) {
            for (int n = 0; n <= 3; n++) {
                Check.due(digit + " of " + n, x.shuffled(n, digit) == -1, n < off[digit]);
            }
        }
        Check.due("to none", x.shuffled(3, 222), 0);
        Check.due("below none", x.shuffled(3, 2222), -1);
    }

    private static void shuffledRefused() {
        int[] never = {LEAST, -1, 4, 5, MOST};
        for (int n : never) {
            Check.leavesAll("shuffled of " + n, Made::rich, x -> x.shuffled(n, 0), -1);
        }
        int[] rows = {LEAST, -1, 8, 10000000, 1111111111, MOST};
        for (int row : rows) {
            Check.leavesAll("shuffled by " + row, Made::rich, x -> x.shuffled(3, row), -1);
        }
        Check.leavesAll("shuffled", Made::rich, x -> x.shuffled(2, 3), 21);
    }

    /** Promises 21, 22: of all rows up to the first of five cells those alone can be which are told by 1 .. n and come by some. */
    private static void everyRow() {
        int[] due = {1, 5, 31, 103};
        for (int n = 0; n <= 3; n++) {
            int shortest = 0;
            int cheapest = 0;
            StackWords x = new StackWords();
            for (int row = 0; row <= 11111; row++) {
                if (row % 250 == 0) {
                    x = new StackWords();
                }
                int length = x.shortest(n, row);
                shortest += length >= 0 ? 1 : 0;
                // All take 1, so what the cheapest takes is how long the shortest is.
                Check.due("cheapest " + n + " " + row, x.cheapest(n, row), length);
                Check.due("some five at most " + n + " " + row, length <= 5, true);
                cheapest++;
            }
            Check.due("rows for " + n, shortest, due[n]);
            Check.due("rows looked at", cheapest, 11112);
        }
        // All three cells and one of them again, but for those ways in which over, dup, tuck, rot come to it: 18 can't be.
        int[] byNone = {1123, 1132, 1213, 1231, 1312, 1321, 2123, 2132, 2213, 2231, 2312, 2321, 3123, 3132, 3213, 3231, 3312, 3321};
        StackWords x = new StackWords();
        for (int row : byNone) {
            Check.due("by none " + row, x.shortest(3, row), -1);
            Check.due("by none " + row, x.cheapest(3, row), -1);
        }
    }

    /** SHORTEST: 'of like ones the first (SHUFFLE by SHUFFLE, by numbers)': all rows of five SHUFFLES at most, in their order. */
    private static void everyShortest() {
        for (int n = 0; n <= 3; n++) {
            Map<Integer, Integer> first = new HashMap<>();
            StackWords x = new StackWords();
            int calls = 0;
            for (int length = 0; length <= 5; length++) {
                int many = (int) Math.pow(7, length);
                for (int told = 0; told < many; told++) {
                    int digits = digitsOf(told, length);
                    if (calls++ % 500 == 0) {
                        x = new StackWords();
                    }
                    int row = x.shuffled(n, digits);
                    if (row != -1) {
                        first.putIfAbsent(row, digits);
                    }
                }
            }
            for (Map.Entry<Integer, Integer> e : first.entrySet()) {
                StackWords y = new StackWords();
                int length = y.shortest(n, e.getKey());
                Check.due("shortest " + n + " " + e.getKey(), lying(y), e.getValue());
                Check.due("how many lie there", y.about(12), length);
                Check.due("as cheap when all take 1", y.cheapest(n, e.getKey()), length);
                Check.due("the same one", lying(y), e.getValue());
            }
            Check.due("all are met", first.size(), new int[] {1, 5, 31, 103}[n]);
        }
    }

    private static int digitsOf(int told, int length) {
        int digits = 0;
        int ten = 1;
        for (int i = 0; i < length; i++) {
            digits += (told % 7 + 1) * ten;
            told /= 7;
            ten *= 10;
        }
        return digits;
    }

    private static int lying(StackWords x) {
        int digits = 0;
        for (int i = 0; i < x.about(12); i++) {
            digits = digits * 10 + x.lies(i) + 1;
        }
        return digits;
    }

    private static StackWords withSomethingLying() {
        StackWords x = Made.rich();
        x.shortest(3, 3333);
        return x;
    }

    private static StackWords withNothingLying() {
        StackWords x = Made.rich();
        x.shortest(3, 123);
        return x;
    }

    /** 'They lie there then; NONE, nothing, if by none, or it can't be.' */
    private static void tasksThatCannotBe() {
        int[][] tasks = {{LEAST, 0}, {-1, 0}, {4, 0}, {4, 1234}, {MOST, 1}, {3, LEAST}, {3, -1}, {3, -123}, {3, MOST}, {3, 10}, {3, 100}, {3, 1000}, {3, 102},
            {3, 1023}, {3, 1203}, {3, 1230}, {3, 4}, {3, 9}, {3, 1234}, {3, 11111}, {3, 33333}, {3, 12312}, {2, 3}, {2, 13}, {2, 3111}, {1, 2}, {1, 12}, {1, 11111}, {0, 1},
            {0, 11}, {3, 1123}, {3, 3321}};
        for (int[] task : tasks) {
            String told = task[0] + " " + task[1];
            StackWords x = withSomethingLying();
            Check.due("shortest " + told, x.shortest(task[0], task[1]), -1);
            Check.due("nothing lies there", x.about(12), 0);
            Check.due("nothing lies there", x.lies(0), -2);
            StackWords y = withSomethingLying();
            Check.due("cheapest " + told, y.cheapest(task[0], task[1]), -1);
            Check.due("nothing lies there", y.about(12), 0);
            Check.due("nothing lies there", y.lies(0), -2);
            Check.leavesAll("shortest " + told, ShufflesEdgesTest::withNothingLying, z -> z.shortest(task[0], task[1]), -1);
            Check.leavesAll("cheapest " + told, ShufflesEdgesTest::withNothingLying, z -> z.cheapest(task[0], task[1]), -1);
        }
        int[][] last = {{3, 0, 3}, {3, 3333, 5}, {3, 1, 2}, {3, 3, 2}, {2, 2222, 4}, {1, 1111, 3}, {1, 0, 1}, {0, 0, 0}, {3, 123, 0}, {2, 12, 0}, {1, 1, 0}};
        for (int[] task : last) {
            Check.due("shortest " + task[0] + " " + task[1], new StackWords().shortest(task[0], task[1]), task[2]);
        }
    }

    private static void cheapest(StackWords x, int n, int row, int takes, int lying) {
        Check.due("cheapest " + n + " " + row, x.cheapest(n, row), takes);
        Check.due("by", lying(x), lying);
    }

    /** 'never with more than 5 cells', where 4 would be dearer and 6 cheaper. */
    private static void cheapestThroughFive() {
        StackWords five = Check.of(THROUGH_FIVE);
        // tuck tuck tuck drop takes 2 + 2 + 2 + 9; through 4 cells tuck dup rot takes 102.
        cheapest(five, 2, 2221, 15, 7772);
        cheapest(five, 3, 1332, 13, 772);
        StackWords six = Check.of(THROUGH_SIX);
        // over dup rot takes 1 + 2 + 9; over tuck tuck over nip nip would take 6, but has 6 cells.
        cheapest(six, 2, 1112, 12, 415);
        cheapest(six, 3, 1332, 11, 15);
    }

    /** Ways that go back and forth, as long as can be of use. */
    private static void cheapestByLongWays() {
        StackWords swaps = Check.of("takes (kind = 0) * 3 + (kind = 1) + (kind = 2) * 99 + (kind = 4) + (kind = 6) * 2;");
        cheapest(swaps, 3, 121, 0, 4664);
        cheapest(swaps, 3, 1112, 1, 46644465);
        StackWords rots = Check.of("takes (kind = 0) * 3 + (kind = 1) + (kind = 2) * 99 + (kind = 5 or kind = 6) * 9;");
        cheapest(rots, 3, 1313, 1, 554552554);
    }

    /** 'of like ones the shortest, then the first'; 'in FORM 0'. */
    private static void cheapestOfLikeOnes() {
        // swap drop takes 1 + 1, nip 2: the shorter is the later one by its number.
        cheapest(Check.of("takes 1 + (kind = 5);"), 2, 2, 2, 6);
        cheapest(Check.of("takes 1 + (kind = 5) * 2;"), 2, 2, 2, 32);
        // drop nip, nip drop: the first.
        cheapest(new StackWords(), 3, 1, 2, 22);
        cheapest(new StackWords(), 3, 2, 2, 26);
        cheapest(Check.of("takes 0;"), 3, 2, 0, 26);
        cheapest(Check.of("takes 99;"), 3, 3333, 495, 66111);
        cheapest(Check.of("takes form;"), 3, 3333, 0, 66111);
        cheapest(Check.of("takes 5 - form * 5;"), 2, 21, 5, 3);
        cheapest(Check.of("takes (form = 0) * (kind = 2);"), 2, 21, 0, 72);
        cheapest(Check.of("takes (form > 0) * (kind = 2);"), 2, 21, 0, 3);
        // What CHEAPEST takes, SHORTEST does not ask for.
        StackWords dear = Check.of("takes (kind = 2) * 99;");
        Check.due("shortest", dear.shortest(2, 21), 1);
        Check.due("by", lying(dear), 3);
    }

    /** Promise 39: '-2 if there is none such'. */
    private static void whatLies() {
        StackWords x = new StackWords();
        Check.due("nothing at first", x.lies(0), -2);
        x.shortest(3, 3333);
        int[] due = {5, 5, 0, 0, 0};
        for (int i = 0; i < due.length; i++) {
            Check.due("lies " + i, x.lies(i), due[i]);
        }
        int[] never = {LEAST, -1, 5, 6, MOST};
        for (int i : never) {
            Check.due("lies " + i, x.lies(i), -2);
        }
        Check.due("fewer then", x.shortest(2, 21), 1);
        Check.due("the first", x.lies(0), 2);
        Check.due("of what lay there nothing", x.lies(1), -2);
        Check.due("none then", x.shortest(2, 12), 0);
        Check.due("none then", x.lies(0), -2);
        Check.leavesAll("lies", Made::rich, y -> y.lies(0), 2);
        Check.leavesAll("lies", Made::rich, y -> y.lies(2), -2);
        StackWords kept = Made.rich();
        kept.tidy(0);
        kept.undo();
        kept.back(0);
        kept.lay(1);
        kept.flip();
        Check.due("stays", lying(kept), 35);
        Check.due("a fault", Check.code(kept, "#"), -1);
        Check.due("stays", lying(kept), 35);
        kept.end(0);
        kept.code();
        Check.due("gone", kept.about(12), 0);
        Check.due("gone", kept.lies(0), -2);
    }

    private static void tidy(String items, int due) {
        StackWords x = Check.of("word z = dup; word a = " + items + ";");
        Check.due("tidy of " + items, x.tidy(1), due);
    }

    /** 'wherever SHUFFLES stand'; 'what is behind a run follows'. */
    private static void tidyRuns() {
        tidy("", 0);
        tidy("1 2 add", 0);
        tidy("dup", 0);
        tidy("dup drop", 2);
        tidy("swap swap", 2);
        tidy("swap drop", 1);
        tidy("swap 1 swap", 0);
        tidy("swap z swap", 0);
        tidy("swap push swap pop", 0);
        tidy("swap neg swap", 0);
        tidy("swap times 2 swap next swap", 0);
        tidy("swap swap times 2 swap swap next swap swap", 6);
        tidy("swap dup if swap else swap then swap", 0);
        tidy("dup if dup drop else swap swap then over drop", 6);
        tidy("1 swap swap", 2);
        tidy("swap swap 1", 2);
        tidy("rot rot rot", 3);
        tidy("rot rot", 0);
        tidy("dup drop 1 dup drop 1 dup drop 1", 6);
        // A run ends where its WORD ends, whatever the next one begins with.
        StackWords two = Check.of("word a = swap; word b = swap; word c = swap drop; word d = swap swap;");
        int[] due = {0, 0, 1, 2};
        for (int word = 0; word < due.length; word++) {
            Check.due("tidy(" + word + ")", two.tidy(word), due[word]);
        }
        Check.leavesAll("tidy", Made::rich, x -> x.tidy(0), 0);
    }

    /** '(6 at most; that NEEDS 3 at most, with those never has more than 5 cells and comes to 4 at most)'. */
    private static void tidyBounds() {
        // Six: 1 3 3 of 1 2 3, by two; five and one alone would have 2 less.
        tidy("nip over over nip over drop", 4);
        // Seven would come to 3 1 3 1 by three (4 less); six come to 3 1 1 3 by four, the seventh is alone.
        tidy("nip tuck over over drop swap rot", 2);
        tidy("swap ".repeat(6), 6);
        tidy("swap ".repeat(7), 6);
        tidy("swap ".repeat(12), 12);
        tidy("swap ".repeat(13), 12);
        tidy("rot ".repeat(7), 6);
        // NEEDS 3: drop drop dup; NEEDS 2 alone would part them so that dup rot nip has 2 less.
        tidy("drop drop dup rot nip", 0);
        // NEEDS 4: drop drop drop and drop, swap are parted.
        tidy("drop drop drop drop", 0);
        tidy("drop drop swap swap", 2);
        // With rot the drop would NEED 4: it is alone, and the three follow.
        tidy("drop rot rot rot", 3);
        tidy("nip rot rot rot", 3);
        // Comes to 3 3 3 3 by five.
        tidy("nip nip dup dup over swap", 1);
        // Five cells between: over over over nip comes to 1 2 1 1 by two.
        tidy("over over over nip", 2);
        // Six cells between: so tuck over, then tuck dup nip nip.
        tidy("tuck over tuck dup nip nip", 2);
        // Comes to 4: dup rot over as 2 2 1 2 by two; were it 3 at most, over would be alone.
        tidy("dup rot over", 1);
        // Comes to 5: so over dup, then dup rot.
        tidy("over dup dup rot", 0);
        tidy("dup dup dup dup drop drop drop drop", 4);
    }
}
