import java.util.Arrays;

/** What the words of "Terms" on READING and on what is refused come to. */
final class OnReading {
    private static final Class<IllegalStateException> STATE = IllegalStateException.class;
    private static final Class<IllegalArgumentException> BAD = IllegalArgumentException.class;
    private static final Class<IndexOutOfBoundsException> OUTSIDE = IndexOutOfBoundsException.class;
    private static final int MOST = 65536;
    private static final int[] TEN = Bytes.text("abcdefghij");
    /** Two numbers of 65536. */
    private static final int[] ALL_ON_ALL = {128, 128, 4, 128, 128, 4};

    private final Checks checks;

    OnReading(Checks checks) {
        this.checks = checks;
    }

    private static Run onLong(int length) {
        Run x = new Run();
        x.putLong(TEN, length);
        x.base();
        return x;
    }

    private static int[] longText(int length) {
        return Bytes.cut(Bytes.repeat(length / 10 + 1, TEN), 0, length);
    }

    private void sound(Run x, int[] delta, int... want) {
        x.put(delta);
        String what = "use of " + Arrays.toString(delta);
        checks.due(what, x::use, want.length);
        checks.dueOutput(what, x, want);
    }

    private void damaged(Run x, int... delta) {
        x.put(delta);
        checks.dueDamaged(Arrays.toString(delta), x);
    }

    private void soundOnTen(String want, int... delta) {
        sound(onLong(10), delta, Bytes.text(want));
    }

    private void damagedOnTen(int... delta) {
        damaged(onLong(10), delta);
    }

    void twoNumbers() {
        soundOnTen("xy", 10, 2, 2, 'x', 'y');
        soundOnTen("", 10, 0);
        sound(onLong(300), Bytes.row(172, 2, 200, 1, 144, 200), longText(200));
        damagedOnTen();
        damagedOnTen(10);
        damagedOnTen(138);
        damagedOnTen(10, 130);
        damagedOnTen(10, 130, 128);
        damaged(onLong(300), 2, 172, 2, 2, 'x', 'y');
        damaged(onLong(300), 44, 130, 2, 2, 'x', 'y');
    }

    void atMost4Bytes() {
        soundOnTen("xy", 138, 0, 130, 0, 2, 'x', 'y');
        soundOnTen("xy", 138, 128, 0, 130, 128, 0, 2, 'x', 'y');
        soundOnTen("xy", 138, 128, 128, 0, 2, 2, 'x', 'y');
        soundOnTen("xy", 10, 130, 128, 128, 0, 2, 'x', 'y');
        damagedOnTen(138, 128, 128, 128, 0, 2, 2, 'x', 'y');
        damagedOnTen(10, 130, 128, 128, 128, 0, 2, 'x', 'y');
        sound(new Run(), Bytes.row(128, 128, 128, 0, 128, 128, 128, 0));
    }

    void firstIsLengthOfBase() {
        soundOnTen("xy", 10, 2, 2, 'x', 'y');
        int[][] others = {{9}, {11}, {0}, {138, 1}, {138, 128, 1}, {138, 128, 128, 1}, {138, 128, 128, 64}};
        for (int[] other : others) {
            damagedOnTen(Bytes.join(other, Bytes.row(2, 2, 'x', 'y')));
        }
        sound(onLong(MOST), Bytes.row(128, 128, 4, 1, 1, 'x'), 'x');
        damaged(onLong(MOST), 0, 1, 1, 'x');
        sound(new Run(), Bytes.row(0, 1, 1, 'x'), 'x');
        damaged(new Run(), 1, 1, 1, 'x');
    }

    void secondIsAtMost65536() {
        sound(onLong(MOST), Bytes.join(ALL_ON_ALL, Bytes.row(176, 255, 255, 1, 'x')),
                Bytes.join(longText(MOST - 1), Bytes.row('x')));
        damaged(onLong(MOST), 128, 128, 4, 129, 128, 4, 128, 1, 'x');
        damaged(onLong(MOST), 128, 128, 4, 128, 128, 8, 128, 128);
        damagedOnTen(10, 255, 255, 255, 127, 144, 10);
    }

    /** Of whatever place, length and order, with BYTES of 0 or without. */
    void anyCopies() {
        soundOnTen("j", 10, 1, 145, 9, 1);
        soundOnTen("abcdefghij", 10, 10, 144, 10);
        soundOnTen("ijghabab", 10, 8, 145, 8, 2, 145, 6, 2, 144, 2, 144, 2);
        soundOnTen("cdeabcdefg", 10, 10, 145, 2, 3, 144, 7);
        soundOnTen("cde", 10, 3, 255, 2, 0, 0, 0, 3, 0, 0);
        soundOnTen("abc", 10, 3, 145, 0, 3);
        soundOnTen("abc", 10, 3, 176, 3, 0);
        damagedOnTen(10, 1, 145, 9);
        damagedOnTen(10, 1, 144);
    }

    void bits0To6() {
        int[] all = longText(MOST);
        Run x = onLong(MOST);
        sound(x, Bytes.join(ALL_ON_ALL, Bytes.row(192, 1)), all);
        sound(x, Bytes.join(ALL_ON_ALL, Bytes.row(240, 0, 0, 1)), all);
        sound(x, Bytes.row(128, 128, 4, 129, 2, 179, 2, 1, 1, 1), Bytes.cut(all, 258, 515));
        sound(x, Bytes.row(128, 128, 4, 3, 146, 255, 3), Bytes.cut(all, 65280, 65283));
        sound(x, Bytes.row(128, 128, 4, 128, 2, 160, 1), longText(256));
        damaged(onLong(MOST), 128, 128, 4, 1, 148, 1, 1);
        damaged(onLong(MOST), 128, 128, 4, 1, 152, 1, 1);
        damaged(onLong(MOST), 128, 128, 4, 1, 152, 128, 1);
        damaged(onLong(MOST), Bytes.join(ALL_ON_ALL, Bytes.row(192, 2)));
        damaged(onLong(MOST), Bytes.join(ALL_ON_ALL, Bytes.row(208, 1, 1)));
        damaged(onLong(MOST), Bytes.join(ALL_ON_ALL, Bytes.row(192)));
        damaged(onLong(MOST), 128, 128, 4, 1, 208, 1, 1);
    }

    void lengthOf0() {
        Run x = onLong(MOST);
        sound(x, Bytes.join(ALL_ON_ALL, Bytes.row(128)), longText(MOST));
        sound(x, Bytes.join(ALL_ON_ALL, Bytes.row(240, 0, 0, 0)), longText(MOST));
        damaged(onLong(MOST), 128, 128, 4, 0, 128);
        damaged(onLong(MOST - 1), 255, 255, 3, 128, 128, 4, 128);
        damagedOnTen(10, 0, 128);
        damagedOnTen(10, 10, 128);
    }

    void whollyWithinBase() {
        soundOnTen("hij", 10, 3, 145, 7, 3);
        damagedOnTen(10, 4, 145, 7, 4);
        damagedOnTen(10, 3, 145, 8, 3);
        damagedOnTen(10, 1, 145, 10, 1);
        damagedOnTen(10, 11, 144, 11);
        damagedOnTen(10, 1, 159, 255, 255, 255, 255, 1);
        damagedOnTen(10, 1, 146, 1, 1);
        damaged(new Run(), 0, 1, 144, 1);
        sound(onLong(MOST), Bytes.row(128, 128, 4, 1, 147, 255, 255, 1), longText(MOST)[MOST - 1]);
        damaged(onLong(MOST), 128, 128, 4, 2, 147, 255, 255, 2);
        damaged(onLong(MOST), Bytes.join(ALL_ON_ALL, Bytes.row(129, 1)));
    }

    void rowsOf1To127() {
        soundOnTen("x", 10, 1, 1, 'x');
        soundOnTen("xyz", 10, 3, 1, 'x', 2, 'y', 'z');
        soundOnTen("xaby", 10, 4, 1, 'x', 144, 2, 1, 'y');
        int[] most = Bytes.differing(127);
        sound(onLong(10), new Delta(10).fresh(most).fresh(most).bytes(), Bytes.join(most, most));
        damagedOnTen(10, 3, 3, 'x', 'y');
        damagedOnTen(10, 2, 3, 'x', 'y');
        damagedOnTen(10, 1, 1);
        damagedOnTen(Bytes.join(Bytes.row(10, 128, 1, 128), Bytes.repeat(128, 'x')));
    }

    void noByte0() {
        damagedOnTen(10, 0, 0);
        damagedOnTen(10, 1, 0, 1, 'x');
        damagedOnTen(10, 1, 1, 'x', 0);
        damagedOnTen(10, 2, 144, 1, 0, 144, 1);
        soundOnTen("\u0000", 10, 1, 1, 0);
    }

    void exactlyAsMany() {
        soundOnTen("abcx", 10, 4, 144, 3, 1, 'x');
        damagedOnTen(10, 5, 144, 3, 1, 'x');
        damagedOnTen(10, 3, 144, 3, 1, 'x');
        damagedOnTen(10, 3, 1, 'x', 144, 3);
        damagedOnTen(10, 2, 144, 3);
        damagedOnTen(10, 1, 2, 'x', 'y');
        damagedOnTen(10, 1);
        damagedOnTen(10, 0, 1, 'x');
        damaged(onLong(MOST), Bytes.join(ALL_ON_ALL, Bytes.row(128, 1, 'x')));
        damaged(onLong(MOST), Bytes.join(ALL_ON_ALL, Bytes.row(128, 128)));
    }

    /** BASE is ten letters, INPUT these and one more, OUTPUT the DELTA of it; no count is 0. */
    private Run withTexts() {
        Run x = onLong(10);
        x.put(Bytes.text("abcdefghij!"));
        checks.dueThrow("use of a text", ArithmeticException.class, x::use);
        x.make();
        return x;
    }

    void bad() {
        Run x = withTexts();
        checks.dueRefused("end(12) of 11", BAD, x, () -> x.end(12));
        checks.dueRefused("end(-1)", BAD, x, () -> x.end(-1));
        checks.dueRefused("change(11, 1) of 11", BAD, x, () -> x.change(11, 1));
        checks.dueRefused("change(-1, 1)", BAD, x, () -> x.change(-1, 1));
        checks.dueRefused("longest(11, 0) of 11", BAD, x, () -> x.longest(11, 0));
        checks.dueRefused("longest(-1, 0)", BAD, x, () -> x.longest(-1, 0));
    }

    void outOfRange() {
        Run x = withTexts();
        checks.dueRefused("change(0, 256)", BAD, x, () -> x.change(0, 256));
        checks.dueRefused("change(0, -1)", BAD, x, () -> x.change(0, -1));
        checks.dueRefused("longest(0, 2)", BAD, x, () -> x.longest(0, 2));
        checks.dueRefused("longest(0, -1)", BAD, x, () -> x.longest(0, -1));
    }

    void damagedIsArithmetic() {
        Run x = withTexts();
        checks.dueDamaged("a text", x);
        x.put();
        checks.dueDamaged("nothing", x);
        checks.due("how often it was", x.count(5), 3);
    }

    void changesNothing() {
        bad();
        outOfRange();
        Run x = withTexts();
        checks.dueRefused("letter behind OUTPUT", OUTSIDE, x, () -> x.letter(x.count(2)));
        damaged(x, 10, 12, 1, 'x', 144, 10, 144, 1, 0);
        checks.dueInput("a DAMAGED one", x, 10, 12, 1, 'x', 144, 10, 144, 1, 0);
        checks.dueBase("a DAMAGED one", x, TEN);
        checks.dueOutput("a DAMAGED one", x, 10, 11, 144, 10, 1, '!');
        Run full = Run.withLong(TEN, 65530);
        full.make();
        checks.dueRefused("feed to 65550", STATE, full, () -> full.feed(1, 2, 3, 4, 5));
        checks.dueRefused("turn of 66050", STATE, full, full::turn);
        checks.dueDamaged("a long text", full);
    }
}
