import java.nio.charset.StandardCharsets;
import java.util.Arrays;
import java.util.function.Supplier;
import java.util.function.ToLongFunction;

/** Counts answers that are not as due, and puts texts on a TAPE. */
final class Check {
    private static int wrong = 0;
    private static int looked = 0;

    private Check() {
    }

    static void due(String call, long got, long want) {
        looked++;
        if (got != want) {
            wrong++;
            if (wrong <= 40) {
                System.out.println(call + " answered " + got + ", due is " + want);
            }
        }
    }

    static void due(String call, boolean got, boolean want) {
        due(call, got ? 1 : 0, want ? 1 : 0);
    }

    static void done() {
        System.out.println(looked + " answers looked at, " + wrong + " not as due");
        if (wrong != 0 || looked == 0) {
            System.exit(1);
        }
    }

    static int[] numbers(byte[] text) {
        byte[] whole = Arrays.copyOf(text, (text.length + 19) / 20 * 20);
        // What is behind the end of a text must never be read: so it is what would be read on.
        Arrays.fill(whole, text.length, whole.length, (byte) "a1; z".charAt(text.length % 5));
        int[] numbers = new int[whole.length / 4];
        for (int i = 0; i < whole.length; i++) {
            numbers[i / 4] = numbers[i / 4] << 8 | whole[i] & 0xFF;
        }
        return numbers;
    }

    static void tape(StackWords x, byte[] text) {
        int[] n = numbers(text);
        x.end(0);
        for (int i = 0; i < n.length; i += 5) {
            x.feed(n[i], n[i + 1], n[i + 2], n[i + 3], n[i + 4]);
        }
        due("end", x.end(text.length), text.length);
    }

    static int code(StackWords x, String text) {
        tape(x, text.getBytes(StandardCharsets.ISO_8859_1));
        return x.code();
    }

    /** A new object whose CODE is this text, which must have no FAULT. */
    static StackWords of(String text) {
        StackWords x = new StackWords();
        int words = code(x, text);
        due("fault of: " + text, x.fault(0), 0);
        due("place of the fault of: " + text, x.fault(1), -1);
        due("words of: " + text, words, x.about(0));
        return x;
    }

    static void fault(String text, int what, int place) {
        StackWords x = new StackWords();
        due("code of: " + text, code(x, text), -1);
        due("fault of: " + text, x.fault(0), what);
        due("place of: " + text, x.fault(1), place);
    }

    /** The FAULT is where the mark ^ stands (which is no part of the text). */
    static void faultAtMark(String marked, int what) {
        int place = marked.indexOf('^');
        fault(marked.substring(0, place) + marked.substring(place + 1), what, place);
    }

    /** A call that does nothing: what it answers, and that all which can be seen is as if it had not been called. */
    static void leavesAll(String told, Supplier<StackWords> made, ToLongFunction<StackWords> call, long want) {
        StackWords with = made.get();
        due(told, call.applyAsLong(with), want);
        samePrint(told + " leaves all as it was", Print.of(with), Print.of(made.get()));
    }

    static void samePrint(String told, String got, String want) {
        due(told + (got.equals(want) ? "" : ": " + Print.difference(got, want)), got.equals(want), true);
    }
}
