/** Promises 18 to 20: to what a WORD comes, ALIKE WORDS and where they differ. */
public final class CompareTest {
    public static void main(String[] args) {
        comes();
        alike();
        Check.done();
    }

    private static void comes() {
        StackWords x = Check.of("word a = sub; word b = drop drop drop drop; word c = drop drop drop; word d = times 4 dup add next; word f = rot; word g = 1 2 3;");
        Check.due("top", x.comes(0, 1, -5, 7, 0), -12);
        Check.due("beneath", x.comes(0, 1, -5, 7, 1), 1);
        Check.due("none such", x.comes(0, 1, -5, 7, 2), 0);
        Check.due("none such", x.comes(0, 1, -5, 7, -1), 0);
        Check.due("wraps", x.comes(0, 0, Integer.MIN_VALUE, 1, 0), Integer.MAX_VALUE);
        Check.due("needs 4", x.comes(1, 1, 2, 3, 0), 0);
        Check.due("none left", x.comes(2, 1, 2, 3, 0), 0);
        Check.due("loop", x.comes(3, 1, 2, 3, 0), 48);
        Check.due("rot", x.comes(4, 1, 2, 3, 0), 1);
        Check.due("rot", x.comes(4, 1, 2, 3, 2), 2);
        Check.due("above", x.comes(5, 1, 2, 3, 5), 1);
        Check.due("none such", x.comes(5, 1, 2, 3, 6), 0);
        Check.due("no word", x.comes(6, 1, 2, 3, 0), 0);
        Check.due("no word", x.comes(-1, 1, 2, 3, 0), 0);
        Check.due("nothing is done", x.about(2) + x.about(6), 0);
    }

    private static void alike() {
        StackWords x = Check.of("word a = dup add; word b = 2 mul; word c = dup 3 same if drop 7 then 2 mul; word d = swap over; word f = tuck; word g = drop drop drop drop;");
        Check.due("alike", x.alike(0, 1), 1);
        Check.due("differs", x.differs(0, 1), -1);
        Check.due("not alike", x.alike(0, 2), 0);
        Check.due("differs at 3", x.differs(0, 2), 3);
        Check.due("tuck", x.alike(3, 4), 1);
        Check.due("tuck", x.differs(3, 4), -1);
        Check.due("other needs", x.alike(0, 3), 0);
        Check.due("other needs", x.differs(0, 3), -1);
        Check.due("itself", x.alike(2, 2), 1);
        Check.due("needs 4", x.alike(5, 5), 0);
        Check.due("needs 4", x.differs(5, 5), -1);
        Check.due("no word", x.alike(0, 6), -1);
        Check.due("no word", x.alike(-1, 0), -1);
        Check.due("no word", x.differs(0, 6), -1);
        Check.due("no word", x.differs(-1, 0), -1);
        StackWords y = Check.of("word a = 1; word b = 2; word c = 1 neg neg; word d = 1 1; word f = rot less; word g = less push dup drop pop;");
        Check.due("of no cells", x.alike(0, 0), 1);
        Check.due("of no cells", y.alike(0, 1), 0);
        Check.due("of no cells", y.differs(0, 1), 0);
        Check.due("of no cells", y.alike(0, 2), 1);
        Check.due("leave others", y.alike(0, 3), 0);
        Check.due("leave others", y.differs(0, 3), -1);
        // a b c: rot less is b (c < a), the other one a (b < c); for 0 0 0 both are 0 0, for 0 0 1 they are 0 0 and 0 1.
        Check.due("three cells", y.differs(4, 5), 1);
        StackWords z = Check.of("word a = rot rot drop drop; word b = nip nip; word c = push push 2 same pop pop 3 same push 3 same mul pop mul;"
            + "word d = drop drop drop 0;");
        Check.due("a b c: c c", z.alike(0, 1), 1);
        Check.due("far on", z.differs(2, 3), 233);
        // Beyond 3 they would differ, but no such cells are tried.
        StackWords w = Check.of("word a = dup 3 less drop; word b = dup 4 less mul;");
        Check.due("0 .. 3 alone", w.alike(0, 1), 1);
    }
}
