import java.lang.reflect.InvocationTargetException;
import java.lang.reflect.Method;
import java.lang.reflect.Modifier;

/** Whatever the arguments and the state are, no call throws, and what only looks changes nothing. */
public final class ExtremesTest {
    private static final int[] NUMBERS = {Integer.MIN_VALUE, Integer.MIN_VALUE + 1, -101, -2, -1, 0, 1, 2, 3, 4, 5, 6, 9, 14, 15, 18, 19, 24, 60,
        100, 999, 9999, 10000, 9999999, 10000000, Integer.MAX_VALUE - 1, Integer.MAX_VALUE};
    private static final String[] CODES = {"", "word a = ;", "flips 100;",
        "word a = times 9 times 9 times 9 times 9 next next next next; word b = a if a else a then; word c = push b pop neg;",
        "word a = push push push push push push pop pop pop pop pop pop; word b = push push push 1 1 1 1 1 1 a drop drop drop drop drop drop pop pop pop;"
            + "word c = drop drop drop drop drop drop; word d = 1 2 3 4 5 6 7 8 9 10 11 12; word f = times 9 neg next; word g = tuck if dup drop else f then;"
            + "takes 99 - kind * form; flips 50; draw 77;"};

    public static void main(String[] args) throws IllegalAccessException {
        for (String text : CODES) {
            for (Method m : StackWords.class.getDeclaredMethods()) {
                if (Modifier.isPublic(m.getModifiers())) {
                    everyWay(m, text);
                }
            }
            lookersChangeNothing(text);
        }
        deepSecondStack();
        Check.done();
    }

    private static StackWords filled(String text) {
        StackWords x = Check.of(text);
        for (int n = 0; n < 30; n++) {
            x.lay(n);
            x.run(7);
            x.flip();
            x.inline(n);
            x.seen(n % 10, 2, 3, n, n % 2 == 0);
        }
        x.undo();
        x.image(0);
        x.shortest(3, 321);
        return x;
    }

    private static void everyWay(Method m, String text) throws IllegalAccessException {
        Class<?>[] types = m.getParameterTypes();
        StackWords x = filled(text);
        int calls = 0;
        for (int i = 0; i < NUMBERS.length; i++) {
            for (int j = 0; j < (types.length > 1 ? NUMBERS.length : 1); j++) {
                Object[] given = new Object[types.length];
                for (int p = 0; p < types.length; p++) {
                    int n = NUMBERS[(p == 0 ? i : j + 5 * Math.max(0, p - 1)) % NUMBERS.length];
                    given[p] = types[p] == boolean.class ? (Object) (n % 2 == 0) : (Object) n;
                }
                if (calls % 300 == 299) {
                    x = filled(text);
                }
                calls++;
                try {
                    m.invoke(x, given);
                } catch (InvocationTargetException e) {
                    Check.due(m + " threw " + e.getCause() + " in: " + text, 1, 0);
                }
            }
        }
        Check.due(m.getName() + " called", calls > 0, true);
    }

    private static long print(StackWords x) {
        long print = 0;
        for (int what = 0; what <= 13; what++) {
            print = print * 31 + x.about(what);
        }
        for (int i = 0; i < 24; i++) {
            print = (print * 31 + x.cell(i)) * 31 + x.put(i);
        }
        for (int i = 0; i < x.about(12); i++) {
            print = print * 31 + x.lies(i);
        }
        return (print * 31 + x.fault(0)) * 31 + x.fault(1);
    }

    private static void lookersChangeNothing(String text) {
        StackWords x = filled(text);
        long before = print(x);
        for (int w = -1; w <= 6; w++) {
            for (int o = -1; o <= 6; o++) {
                x.word(w, o);
                x.item(w, o, 0);
                x.height(w, o);
                x.comes(w, o, w, o, 0);
                x.alike(w, o);
                x.differs(w, o);
                x.shuffled(w, o * 111);
                x.takes(o, w);
                x.time(w, o);
                x.room(w, o);
                x.odds(w, o);
                x.fit(w, o);
                x.ask(w, o, 0, 0);
            }
            x.tidy(w);
            x.best(w);
            x.total(w);
            x.calls(w);
            x.callers(w);
            x.nested(w);
            x.pick(w);
            x.law(w);
            x.fits(w);
        }
        x.commonest();
        x.pure();
        Check.due("nothing is done in: " + text, print(x), before);
    }

    /** Six words within one another, each with three put by, and six put by by hand beneath. */
    private static void deepSecondStack() {
        StringBuilder text = new StringBuilder("word a = push push push pop pop pop drop drop drop;");
        String called = "a";
        for (String name : new String[] {"b", "c", "d", "f", "g"}) {
            text.append("word ").append(name).append(" = 1 1 1 push push push ").append(called).append(" pop pop pop;");
            called = name;
        }
        StackWords x = Check.of(text.toString());
        for (int n = 1; n <= 9; n++) {
            x.lay(n);
        }
        for (int n = 1; n <= 6; n++) {
            x.run(7);
        }
        Check.due("call", x.call(5), 15);
        for (int i = 0; i < 15; i++) {
            Check.due("cell " + i, x.cell(i), 1);
        }
        for (int i = 0; i < 6; i++) {
            Check.due("put by beneath " + i, x.put(i), 4 + i);
        }
    }
}
