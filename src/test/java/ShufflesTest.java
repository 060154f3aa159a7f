/** Promises 21 to 24, 39: SHUFFLE TASKS, TIDY and what lies there. */
public final class ShufflesTest {
    private static final int DUP = 1, DROP = 2, SWAP = 3, OVER = 4, ROT = 5, NIP = 6, TUCK = 7;

    public static void main(String[] args) {
        shuffled();
        shortest();
        allTasks();
        cheapest();
        tidy();
        Check.done();
    }

    private static int row(int... shuffles) {
        int told = 0;
        for (int shuffle : shuffles) {
            told = told * 10 + shuffle;
        }
        return told;
    }

    private static void shuffled() {
        StackWords x = new StackWords();
        Check.due("none", x.shuffled(0, 0), 0);
        Check.due("none", x.shuffled(3, 0), 123);
        Check.due("dup", x.shuffled(3, DUP), 1233);
        Check.due("drop", x.shuffled(3, DROP), 12);
        Check.due("swap", x.shuffled(3, SWAP), 132);
        Check.due("over", x.shuffled(3, OVER), 1232);
        Check.due("rot", x.shuffled(3, ROT), 231);
        Check.due("nip", x.shuffled(3, NIP), 13);
        Check.due("tuck", x.shuffled(3, TUCK), 1323);
        Check.due("the first one first", x.shuffled(3, row(DROP, DUP)), 122);
        Check.due("to nothing", x.shuffled(1, DROP), 0);
        Check.due("seven", x.shuffled(3, 5555555), 231);
        Check.due("five cells between", x.shuffled(3, row(DUP, DUP, DROP)), 1233);
        Check.due("five of the greatest between", x.shuffled(3, row(NIP, NIP, DUP, DUP, DUP, DUP, DROP)), 3333);
        Check.due("five at the end", x.shuffled(3, row(DUP, DUP)), -1);
        Check.due("six between", x.shuffled(3, row(DUP, DUP, DUP, DROP, DROP)), -1);
        Check.due("not there", x.shuffled(0, DUP), -1);
        Check.due("not there", x.shuffled(2, ROT), -1);
        Check.due("no such", x.shuffled(2, 8), -1);
        Check.due("no such", x.shuffled(2, 303), -1);
        Check.due("no such", x.shuffled(2, 30), -1);
        Check.due("no such", x.shuffled(2, 39), -1);
        Check.due("n", x.shuffled(4, 1), -1);
        Check.due("n", x.shuffled(-1, 0), -1);
        Check.due("too long", x.shuffled(3, 55555555), -1);
        Check.due("below 0", x.shuffled(3, -1), -1);
    }

    private static void lies(StackWords x, String told, int... due) {
        Check.due(told + ": how many", x.about(12), due.length);
        for (int i = 0; i < due.length; i++) {
            Check.due(told + ": lies " + i, x.lies(i), due[i] - 1);
        }
        Check.due(told + ": none such", x.lies(due.length), -2);
        Check.due(told + ": none such", x.lies(-1), -2);
    }

    private static void shortest() {
        StackWords x = new StackWords();
        lies(x, "new");
        Check.due("shortest", x.shortest(3, 321), 2);
        lies(x, "321", SWAP, ROT);
        Check.due("1 from 1 2", x.shortest(2, 1), 1);
        lies(x, "1", DROP);
        Check.due("2 from 1 2", x.shortest(2, 2), 1);
        lies(x, "2", NIP);
        Check.due("it is so", x.shortest(3, 123), 0);
        lies(x, "123");
        x.shortest(2, 21);
        Check.due("by none", x.shortest(0, 1), -1);
        lies(x, "by none");
        int[][] wrong = {{4, 1}, {-1, 0}, {2, 3}, {2, 10}, {2, 102}, {2, 11111}, {2, -1}, {3, 120}, {3, 1004}};
        for (int[] task : wrong) {
            x.shortest(2, 21);
            Check.due("shortest " + task[1], x.shortest(task[0], task[1]), -1);
            lies(x, "can't be " + task[1]);
            x.shortest(2, 21);
            Check.due("cheapest " + task[1], x.cheapest(task[0], task[1]), -1);
            lies(x, "can't be " + task[1]);
        }
        x.shortest(2, 21);
        x.shuffled(2, 8);
        x.takes(0, 0);
        lies(x, "stays", SWAP);
    }

    /** All rows of shuffles, shorter ones first, of like ones in their order: the first that comes there is the one. */
    private static int found(StackWords x, int n, int row, int most) {
        for (int length = 0; length <= most; length++) {
            int[] told = new int[length];
            java.util.Arrays.fill(told, 1);
            while (true) {
                if (x.shuffled(n, row(told)) == row) {
                    return row(told);
                }
                int at = length - 1;
                while (at >= 0 && told[at] == 7) {
                    told[at] = 1;
                    at--;
                }
                if (at < 0) {
                    break;
                }
                told[at]++;
            }
        }
        return -1;
    }

    private static void allTasks() {
        StackWords x = new StackWords();
        int[] rows = {0, 1, 2, 3, 11, 13, 31, 33, 112, 213, 222, 321, 313, 1111, 1221, 2121, 1213, 3213, 2312};
        for (int n = 0; n <= 3; n++) {
            for (int row : rows) {
                int due = found(x, n, row, 4);
                int got = x.shortest(n, row);
                int told = 0;
                for (int i = 0; i < got; i++) {
                    told = told * 10 + x.lies(i) + 1;
                }
                if (due >= 0) {
                    Check.due("shortest " + n + " " + row, told, due);
                } else {
                    Check.due("longer or none " + n + " " + row, got == -1 || got > 4, true);
                }
                if (got >= 0 && got <= 7) {
                    Check.due("comes to it", x.shuffled(n, told), row);
                }
            }
        }
    }

    private static void cheapest() {
        StackWords x = Check.of("takes 3 + 9 * (kind = 5);");
        Check.due("nip by swap drop", x.cheapest(2, 2), 6);
        lies(x, "swap drop", SWAP, DROP);
        Check.due("shortest all the same", x.shortest(2, 2), 1);
        lies(x, "nip", NIP);
        StackWords swaps = Check.of("takes 1 + 9 * (kind = 2);");
        Check.due("swap by tuck drop", swaps.cheapest(2, 21), 2);
        lies(swaps, "tuck drop", TUCK, DROP);
        Check.due("nothing", x.cheapest(3, 123), 0);
        lies(x, "nothing");
        StackWords free = Check.of("takes 0;");
        Check.due("all for nothing", free.cheapest(3, 321), 0);
        lies(free, "the shortest of like ones", SWAP, ROT);
        StackWords dear = Check.of("takes 100 * (kind = 6) + 1;");
        Check.due("no tuck", dear.cheapest(2, 212), 2);
        lies(dear, "swap over", SWAP, OVER);
        StackWords forms = Check.of("takes form * 50 + 1;");
        Check.due("form 0 counts", forms.cheapest(2, 212), 1);
        lies(forms, "tuck", TUCK);
        StackWords first = Check.of("takes 1 + (kind = 1) + (kind = 5) * 9;");
        Check.due("drop", first.cheapest(1, 0), 2);
        Check.due("none", first.cheapest(0, 3), -1);
    }

    private static void tidy() {
        StackWords x = Check.of("word a = swap swap; word b = dup drop 1 swap drop; word c = over over over over; word d = rot rot rot swap 5 swap swap;"
            + "word f = ; word g = swap drop if swap drop else nip then;");
        int[] due = {2, 3, 0, 5, 0, 2};
        for (int word = 0; word < due.length; word++) {
            Check.due("tidy " + word, x.tidy(word), due[word]);
        }
        Check.due("no word", x.tidy(6), -1);
        Check.due("no word", x.tidy(-1), -1);
        x.shortest(3, 321);
        x.tidy(0);
        lies(x, "stays", SWAP, ROT);
        // Six at most: swap six times, then once more.
        StackWords y = Check.of("word a = swap swap swap swap swap swap swap; word b = dup dup dup dup drop drop drop drop; word c = drop drop drop drop;"
            + "word d = swap push swap swap pop;");
        Check.due("six and one", y.tidy(0), 6);
        // Of dup dup dup dup drop drop the six comes to three of one cell, 1 1 1 (2 for 6); drop drop is a run of its own.
        Check.due("what follows a run", y.tidy(1), 4);
        // drop drop drop NEEDS 3, a fourth would be one more.
        Check.due("needs 3", y.tidy(2), 0);
        Check.due("parted by others", y.tidy(3), 2);
    }
}
