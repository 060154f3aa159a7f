/**
 * All that can be seen of an object, answer by answer, so that two objects can be compared.
 * To see what is kept of ACTS, in BOXES and on the TAPE it must be used: so it is used up then.
 */
final class Print {
    /** Together with what is called ahead of it an object stays within the 512 calls that the document tells of. */
    static final int MOST_CALLS = 400;

    private final StackWords x;
    private final StringBuilder told = new StringBuilder();
    private int calls;

    private Print(StackWords x) {
        this.x = x;
    }

    static String of(StackWords x) {
        Print p = new Print(x);
        p.told.append(" fault");
        p.add(x.fault(0));
        p.add(x.fault(1));
        return p.rest();
    }

    /** All but the latest FAULT. */
    static String withoutFault(StackWords x) {
        return new Print(x).rest();
    }

    /** Where two of them first differ, to be told in a test that fails. */
    static String difference(String one, String other) {
        int at = 0;
        while (at < one.length() && at < other.length() && one.charAt(at) == other.charAt(at)) {
            at++;
        }
        int from = Math.max(0, at - 40);
        return one.substring(from, Math.min(one.length(), at + 30)) + " | " + other.substring(from, Math.min(other.length(), at + 30));
    }

    private void add(int answer) {
        calls++;
        told.append(' ').append(answer);
    }

    private void add(boolean answer) {
        add(answer ? 1 : 0);
    }

    private String rest() {
        abouts();
        words();
        machine();
        sightings();
        acts();
        boxes();
        tape();
        Check.due("calls of a print", calls <= MOST_CALLS, true);
        return told.toString();
    }

    private void abouts() {
        told.append(" about");
        for (int what = 0; what <= 13; what++) {
            add(x.about(what));
        }
        told.append(" lies");
        for (int i = 0; i <= 5; i++) {
            add(x.lies(i));
        }
    }

    private void words() {
        told.append(" words");
        int words = x.about(0);
        for (int word = 0; word < words; word++) {
            add(x.word(word, 0));
            add(x.word(word, 5));
            add(x.word(word, 6));
            add(x.item(word, 0, 1));
        }
        add(x.takes(0, 0));
        add(x.takes(1, 16));
        add(x.takes(2, 18));
    }

    private void machine() {
        told.append(" cells");
        for (int i = 0; i < x.about(2) && i < 24; i++) {
            add(x.cell(i));
        }
        calls += 25;
        told.append(" put");
        for (int i = 0; i < 6; i++) {
            add(x.put(i));
        }
    }

    private void sightings() {
        int now = x.about(9);
        told.append(" fits");
        for (int k : new int[] {Integer.MIN_VALUE, -1, 0, now - 1, now, Integer.MAX_VALUE}) {
            add(x.fits(k));
        }
        add(x.fit(0, now));
        told.append(" untold");
        for (int seen = 0; seen <= 30; seen++) {
            add(x.untell(seen));
        }
        add(x.fits(now));
    }

    private void acts() {
        told.append(" redone");
        int redone = 0;
        while (x.redo() && redone < 50) {
            redone++;
            add(x.cell(0));
        }
        add(redone);
        told.append(" undone");
        int undone = 0;
        while (x.undo() && undone < 50) {
            undone++;
            add(x.cell(0));
            add(x.about(2));
        }
        add(undone);
        calls += redone + undone;
    }

    private void boxes() {
        told.append(" boxes");
        for (int box = 0; box < 3; box++) {
            add(x.back(box));
            add(x.cell(0));
            add(x.about(3));
            add(x.about(4));
            add(x.about(5));
        }
    }

    private void tape() {
        told.append(" tape");
        add(x.code());
        add(x.fault(0));
        add(x.fault(1));
        add(x.about(1));
        add(x.about(9));
    }
}
