import java.nio.charset.StandardCharsets;
import java.util.ArrayList;
import java.util.List;
import java.util.Random;

/** Runs of drawn calls (always the same ones) on the program and on the plain model, answer by answer. */
public final class RandomRunsTest {
    private static final int RUNS = 1500;
    private static final int CALLS = 300;

    private final Random random;
    private final StackWords x = new StackWords();
    private final Model m = new Model();
    private final StringBuilder history = new StringBuilder();

    private RandomRunsTest(long seed) {
        random = new Random(seed);
    }

    public static void main(String[] args) {
        long from = args.length > 0 ? Long.parseLong(args[0]) : 1;
        int runs = args.length > 1 ? Integer.parseInt(args[1]) : RUNS;
        int[] told = new int[8];
        for (long seed = from; seed < from + runs; seed++) {
            new RandomRunsTest(seed).run(told);
        }
        StringBuilder faults = new StringBuilder("codes by their faults:");
        for (int f = 0; f < told.length; f++) {
            faults.append(' ').append(told[f]);
            Check.due("some codes have the fault " + f, told[f] > 0 || runs < RUNS, true);
        }
        System.out.println(faults);
        Check.done();
    }

    private void due(String call, long got, long want) {
        if (got != want) {
            call = call + " in: " + history;
        }
        Check.due(call, got, want);
    }

    private int below(int n) {
        return random.nextInt(n);
    }

    /** Mostly 0 .. most, at times a little beyond, rarely any number. */
    private int about(int most) {
        int sort = below(20);
        return sort == 0 ? random.nextInt() : sort == 1 ? -1 : sort == 2 ? most + 1 : below(most + 1);
    }

    private void run(int[] told) {
        int codes = 0;
        for (int i = 0; i < CALLS; i++) {
            if (i == 0 || below(60) == 0) {
                String text = new TextDraw(random).draw();
                feed(text.getBytes(StandardCharsets.ISO_8859_1));
                history.append(" [").append(text).append(']');
                due("code()", x.code(), m.code());
                told[m.fault]++;
                codes++;
                due("fault(0) of " + text, x.fault(0), m.fault);
                due("fault(1) of " + text, x.fault(1), m.place);
                lookAtWords();
            }
            act();
            look();
        }
        lookAtMachine();
    }

    private void feed(byte[] text) {
        due("end", x.end(0), m.end(0));
        int[] n = Check.numbers(text);
        for (int i = 0; i < n.length; i += 5) {
            due("feed", x.feed(n[i], n[i + 1], n[i + 2], n[i + 3], n[i + 4]), m.feed(n[i], n[i + 1], n[i + 2], n[i + 3], n[i + 4]));
        }
        due("end", x.end(text.length), m.end(text.length));
    }

    private void lookAtWords() {
        for (int w = -1; w <= m.words.size(); w++) {
            for (int what = -1; what <= 7; what++) {
                due("word(" + w + "," + what + ")", x.word(w, what), m.word(w, what));
            }
            for (int i = -1; i <= 20; i++) {
                due("height", x.height(w, i), m.height(w, i));
                due("item", x.item(w, i, 0), m.item(w, i, 0));
                due("item", x.item(w, i, 1), m.item(w, i, 1));
            }
            due("tidy(" + w + ")", x.tidy(w), m.tidy(w));
        }
        for (int form = 0; form < 3; form++) {
            for (int kind = 0; kind < 19; kind++) {
                due("takes(" + form + "," + kind + ")", x.takes(form, kind), m.takes(form, kind));
            }
        }
        lookAtMachine();
    }

    private void lookAtMachine() {
        for (int what = -1; what <= 14; what++) {
            due("about(" + what + ")", x.about(what), m.about(what));
        }
        for (int i = -1; i <= 24; i++) {
            due("cell", x.cell(i), Model.fromTop(m.machine.stack, i, 0));
            due("put", x.put(i), Model.fromTop(m.machine.second, i, 0));
        }
    }

    private void act() {
        int a;
        switch (below(14)) {
            case 0:
            case 1:
            case 2:
                a = below(4) == 0 ? about(9999) : below(4);
                history.append(" lay ").append(a);
                due("lay", x.lay(a), m.lay(a));
                break;
            case 3:
            case 4:
                a = about(14);
                history.append(" run ").append(a);
                due("run", x.run(a), m.run(a));
                break;
            case 5:
            case 6:
                a = about(5);
                history.append(" call ").append(a);
                due("call", x.call(a), m.call(a));
                break;
            case 7:
                if (below(6) == 0) {
                    history.append(" clear");
                    due("clear", x.clear(), m.clear());
                }
                break;
            case 8:
                a = about(5);
                history.append(" inline ").append(a);
                due("inline", x.inline(a), m.inline(a));
                break;
            case 9:
                history.append(" flip");
                due("flip", x.flip(), m.flip());
                break;
            case 10:
                for (int n = below(4) == 0 ? below(45) : 1; n > 0; n--) {
                    history.append(" undo");
                    due("undo", x.undo() ? 1 : 0, m.undo() ? 1 : 0);
                }
                break;
            case 11:
                for (int n = below(4) == 0 ? below(45) : 1; n > 0; n--) {
                    history.append(" redo");
                    due("redo", x.redo() ? 1 : 0, m.redo() ? 1 : 0);
                }
                break;
            case 12:
                a = about(2);
                if (below(2) == 0) {
                    history.append(" image ").append(a);
                    due("image", x.image(a), m.image(a));
                } else {
                    history.append(" back ").append(a);
                    due("back", x.back(a), m.back(a));
                }
                break;
            default:
                tell();
        }
    }

    private void tell() {
        switch (below(4)) {
            case 0:
                int by = below(3) == 0 ? about(1000) : below(5);
                due("later", x.later(by), m.later(by));
                break;
            case 1:
                int which = about(6);
                due("untell", x.untell(which) ? 1 : 0, m.untell(which) ? 1 : 0);
                break;
            default:
                int a = about(9);
                int b = about(9);
                int c = about(9);
                List<Integer> fitting = m.fitting(m.time);
                int top = below(10) - 3;
                if (!fitting.isEmpty() && Math.min(a, Math.min(b, c)) >= 0 && below(8) > 0) {
                    top = Model.fromTop(m.after(m.lastWith(fitting.get(below(fitting.size()))).items, a, b, c), 0, 0);
                }
                boolean is = below(4) > 0;
                history.append(" seen ").append(a).append(b).append(c).append('=').append(top).append(is);
                due("seen", x.seen(a, b, c, top, is), m.seen(a, b, c, top, is));
        }
    }

    private int row(int n) {
        int row = 0;
        for (int digits = below(5); digits > 0; digits--) {
            row = row * 10 + 1 + below(Math.max(1, n));
        }
        return below(12) == 0 ? about(33333) : row;
    }

    private void look() {
        int w = about(5);
        int o = about(5);
        int form = about(2);
        int n = about(3);
        int k = below(3) > 0 ? m.time - below(8) : about(m.time);
        switch (below(16)) {
            case 0:
                int a = random.nextInt();
                int b = below(7) - 3;
                due("comes", x.comes(w, a, b, n, o), m.comes(w, a, b, n, o));
                break;
            case 1:
                due("alike " + w + " " + o, x.alike(w, o), m.alike(w, o));
                due("differs " + w + " " + o, x.differs(w, o), m.differs(w, o));
                break;
            case 2:
                int row = row(n);
                due("shortest " + n + " " + row, x.shortest(n, row), m.shortest(n, row));
                lies();
                break;
            case 3:
                int other = row(n);
                due("cheapest " + n + " " + other, x.cheapest(n, other), m.cheapest(n, other));
                lies();
                break;
            case 4:
                int told = below(3) == 0 ? about(9999999) : Integer.parseInt("0" + digits(below(8)));
                due("shuffled " + n + " " + told, x.shuffled(n, told), m.shuffled(n, told));
                break;
            case 5:
                due("time", x.time(w, form), m.time(w, form));
                due("room", x.room(w, form), m.room(w, form));
                due("best", x.best(w), m.best(w));
                due("total", x.total(form), m.total(form));
                due("takes", x.takes(form, o), m.takes(form, o));
                break;
            case 6:
                due("calls", x.calls(w), m.calls(w));
                due("callers", x.callers(w), m.callers(w));
                due("nested", x.nested(w), m.nested(w));
                break;
            case 7:
                due("pick", x.pick(form), m.pick(form));
                due("commonest", x.commonest(), m.commonest());
                due("pure", x.pure(), m.pure());
                break;
            case 8:
                int all = about(99);
                due("law " + all, x.law(all), m.law(all));
                due("odds", x.odds(n, o), m.odds(n, o));
                due("odds", x.odds(4, 1), m.odds(4, 1));
                break;
            case 9:
            case 10:
                due("fits " + k, x.fits(k), m.fits(k));
                for (int i = -1; i < 15; i++) {
                    due("fit " + i + " " + k, x.fit(i, k), m.fit(i, k));
                }
                break;
            case 11:
            case 12:
                int p = about(9);
                int q = about(9);
                due("ask " + p + q, x.ask(p, q, 0, k), m.ask(p, q, 0, k));
                due("ask " + p + q, x.ask(p, q, 1, k), m.ask(p, q, 1, k));
                due("ask " + p + q, x.ask(p, q, o, k), m.ask(p, q, o, k));
                break;
            case 13:
                lies();
                break;
            default:
                lookAtMachine();
        }
    }

    private String digits(int many) {
        StringBuilder b = new StringBuilder();
        for (int i = 0; i < many && i < 7; i++) {
            b.append(1 + below(7));
        }
        return b.toString();
    }

    private void lies() {
        for (int i = -1; i <= m.lying.size(); i++) {
            due("lies " + i, x.lies(i), i >= 0 && i < m.lying.size() ? m.lying.get(i) : -2);
        }
    }

    /** Texts that are mostly good, or nearly so. */
    private static final class TextDraw {
        private static final String[] NAMES = {"a", "bb", "sq", "e", "form", "token", "abcdefgh", "zz"};
        private final Random random;
        private final StringBuilder out = new StringBuilder();
        private final List<String> told = new ArrayList<>();
        private int itemsLeft;
        private boolean wild;

        TextDraw(Random random) {
            this.random = random;
        }

        private int below(int n) {
            return random.nextInt(n);
        }

        String draw() {
            wild = below(3) == 0;
            List<String> lines = new ArrayList<>();
            int words = below(wild ? 8 : 7);
            for (int i = 0; i < words; i++) {
                lines.add("word");
            }
            String[] others = {"takes", "flips", "draw"};
            for (String other : others) {
                for (int n = below(wild ? 12 : 3) == 0 ? (wild ? 2 : 1) : below(2); n > 0; n--) {
                    lines.add(below(lines.size() + 1), other);
                }
            }
            for (String line : lines) {
                out.append(line).append(' ');
                switch (line) {
                    case "word":
                        word();
                        break;
                    case "takes":
                        formula(0);
                        break;
                    case "flips":
                        out.append(below(wild ? 130 : 101));
                        break;
                    default:
                        out.append(below(wild ? 1100 : 1000));
                }
                out.append(";");
                out.append(below(3) == 0 ? "\n" : "");
            }
            if (wild && below(3) == 0) {
                spoil();
            }
            if (out.length() > 1600) {
                out.setLength(1600);
            }
            return out.toString();
        }

        private void spoil() {
            String signs = "abz059;()<>=+-*/% \n#A\u00e9";
            for (int n = 1 + below(3); n > 0 && out.length() > 0; n--) {
                int at = below(out.length());
                switch (below(4)) {
                    case 0:
                        out.setLength(at);
                        break;
                    case 1:
                        out.deleteCharAt(at);
                        break;
                    case 2:
                        out.insert(at, signs.charAt(below(signs.length())));
                        break;
                    default:
                        out.setCharAt(at, signs.charAt(below(signs.length())));
                }
            }
        }

        private void word() {
            String name = NAMES[below(NAMES.length)];
            for (int n = 0; n < 20 && !wild && (told.contains(name) || name.equals("form")); n++) {
                name = NAMES[below(NAMES.length)];
            }
            out.append(name).append(" = ");
            itemsLeft = below(4) == 0 ? below(wild ? 24 : 20) : below(9);
            int height = items(0, 0, 0);
            told.add(name);
            if (height > 8) {
                out.append("drop ");
            }
        }

        private static final int[][] CHANGE = Model.CHANGE;

        /** Goes for what agrees, but when it is wild, or by chance. */
        private int items(int height, int within, int pushed) {
            int here = pushed;
            while (itemsLeft > 0) {
                itemsLeft--;
                int sort = below(12);
                if (sort < 7) {
                    int thing = below(3) == 0 ? below(7) : below(15);
                    if (thing == 7 && below(3) > 0) {
                        thing = 12;
                    }
                    if (thing == 8 && here == 0 && below(20) > 0 || height > 9 && CHANGE[thing][1] > CHANGE[thing][0] && below(30) > 0) {
                        thing = 5;
                    }
                    here += thing == 7 ? 1 : thing == 8 ? -1 : 0;
                    height += CHANGE[thing][1] - CHANGE[thing][0];
                    out.append(Model.THINGS.get(thing)).append(' ');
                } else if (sort == 7 || sort == 8) {
                    out.append(below(6) == 0 ? below(10000) : below(4)).append(' ');
                    height++;
                } else if (sort == 9 && !told.isEmpty()) {
                    out.append(told.get(below(told.size()))).append(' ');
                } else if (sort == 10 && within < (wild ? 5 : 4) && itemsLeft > 1) {
                    out.append("times ").append(wild && below(9) == 0 ? below(12) : 1 + below(9)).append(' ');
                    itemsLeft--;
                    block(height, within + 1);
                    out.append("next ");
                } else if (within < (wild ? 5 : 4) && itemsLeft > 2) {
                    out.append("if ");
                    height--;
                    itemsLeft--;
                    block(height, within + 1);
                    if (below(2) == 0) {
                        itemsLeft--;
                        out.append("else ");
                        block(height, within + 1);
                    }
                    out.append("then ");
                }
                if (within > 0 && below(3) == 0) {
                    break;
                }
            }
            while (here > 0 && (!wild || below(4) > 0)) {
                out.append("pop ");
                height++;
                here--;
            }
            return height;
        }

        /** Something that leaves what it found: mended by drops and numbers. */
        private void block(int height, int within) {
            int after = items(height, within, 0);
            for (int n = 0; n < 12 && after != height && (!wild || below(6) > 0); n++) {
                out.append(after > height ? "drop " : "1 ");
                after += after > height ? -1 : 1;
            }
        }

        private void formula(int depth) {
            int units = 1 + below(wild && below(5) == 0 ? 12 : 4);
            for (int i = 0; i < units; i++) {
                if (i > 0) {
                    String[] signs = {" + ", " - ", "*", "/", "%", " and ", " or ", " < ", " > ", " = "};
                    String sign = signs[below(wild ? 10 : 7)];
                    out.append(sign);
                    if ((sign.equals(" and ") || sign.equals(" or ")) && below(3) == 0) {
                        out.append("not ");
                    }
                } else if (below(5) == 0) {
                    out.append(wild ? "not ".repeat(below(9)) : "not ");
                }
                int sort = below(6);
                if (sort == 0 && depth < (wild ? 9 : 3)) {
                    out.append('(');
                    formula(depth + 1);
                    out.append(')');
                } else if (sort < 3) {
                    out.append(sort == 1 ? "form" : "kind");
                } else {
                    out.append(below(3) == 0 ? below(10000) : below(12));
                }
            }
            if (!wild && below(3) == 0) {
                out.append(" < ").append(below(20));
            }
        }
    }
}
